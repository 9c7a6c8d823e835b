import java.util.Arrays;

/** A store that keeps each block once; ../shared/DOC.md says what each call promises. */
public final class OnceStores {
    public static final int BAD = -1, NONE = -2, FULL = -3, CLASH = -4, MISSING = -5, OVER = -6;

    private static final int PIECE = 1, LIST = 2, TREE = 3, SNAPSHOT = 4;

    private static final int WRITERS = 2, OWNERS = 4;
    private static final int DISK_PACKS = 12, ALL_PACKS = DISK_PACKS + WRITERS;
    private static final int PACK_ROOM = 600, RECORD_HEAD = 5, PACK_RECORDS = PACK_ROOM / RECORD_HEAD;
    private static final int ROW_ROOM = ALL_PACKS * PACK_RECORDS;
    private static final int BUCKETS = 512;

    private static final int BLOCK_ROOM = 210, TAPE_ROOM = 400, FED_BYTES = 20;
    private static final int PIECE_LEAST = 4, PIECE_MOST = 64, PIECES_MOST = TAPE_ROOM / PIECE_LEAST;
    private static final int LIST_HEAD = 3, ENTRY_BYTES = 4;
    private static final int SNAPSHOT_BYTES = 7, NUMBER_AT = 1, BEFORE_AT = 3, TREE_AT = 5;

    private static final int FILES_MOST = 10, ENTRIES_MOST = 12, NAMES = 256;
    private static final int HEADS_MOST = 20, LEVELS_MOST = 8;
    private static final int FIRST_QUOTA = 5000, QUOTA_MOST = 10000;

    /* One TREE takes 4 bytes for each thing that it names, so all packs together name no more than this. */
    private static final int NAMED_ROOM = ALL_PACKS * PACK_ROOM / ENTRY_BYTES + 1;

    private static final int NOWHERE = -1;

    private final byte[] tape = new byte[TAPE_ROOM];
    private final byte[] block = new byte[BLOCK_ROOM];
    private final int[] quotas = new int[OWNERS];
    private final int[] heads = new int[HEADS_MOST];
    private final Writer[] writers = new Writer[WRITERS];
    private final Store store = new Store();
    private final Reach reach = new Reach(store);
    private int tapeSize = 0;
    private int headCount = 0;
    private int made = 0;
    private boolean comparing = true;

    public OnceStores() {
        Arrays.fill(quotas, FIRST_QUOTA);
        for (int w = 0; w < WRITERS; w++) {
            writers[w] = new Writer();
        }
    }

    // ---- the tape

    public int feed(int a, int b, int c, int d, int e) {
        if (tapeSize + FED_BYTES > TAPE_ROOM) {
            return FULL;
        }
        putOnTape(a);
        putOnTape(b);
        putOnTape(c);
        putOnTape(d);
        putOnTape(e);
        return tapeSize;
    }

    public int cut(int n) {
        if (n < 0 || n > tapeSize) {
            return BAD;
        }
        tapeSize -= n;
        return tapeSize;
    }

    public int byteOf(int i) {
        return i >= 0 && i < tapeSize ? tape[i] & 0xFF : BAD;
    }

    public int compare(boolean on) {
        int was = comparing ? 1 : 0;
        comparing = on;
        return was;
    }

    public int quota(int owner, int n) {
        if (!isOwner(owner) || n < 0 || n > QUOTA_MOST) {
            return BAD;
        }
        int was = quotas[owner];
        quotas[owner] = n;
        return was;
    }

    // ---- writers

    public int file(int writer, int number) {
        if (!isWriter(writer) || !isFileNumber(number)) {
            return BAD;
        }
        int pieces = keepPieces(writer);
        int list = pieces < 0 ? pieces : keepList(writer, pieces);
        tapeSize = 0;
        if (list < 0) {
            return list;
        }
        writers[writer].files[number] = list;
        return pieces;
    }

    public int entry(int writer, int name, int number) {
        if (!isWriter(writer) || !isName(name) || !isFileNumber(number)) {
            return BAD;
        }
        int list = writers[writer].files[number];
        if (list < 0) {
            return BAD;
        }
        return writers[writer].putEntry(name, LIST, list);
    }

    public int sub(int writer, int name, int k) {
        if (!isWriter(writer) || !isName(name) || !isHead(k)) {
            return BAD;
        }
        if (!writers[writer].hasRoomFor(name)) {
            return FULL;
        }
        int snapshot = store.findSnapshot(heads[k]);
        if (snapshot < 0) {
            return MISSING;
        }
        return writers[writer].putEntry(name, TREE, store.twoIn(snapshot, TREE_AT));
    }

    public int remove(int writer, int name) {
        return isWriter(writer) ? writers[writer].takeEntry(name) : BAD;
    }

    public int commit(int writer, int owner) {
        if (!isWriter(writer) || !isOwner(owner)) {
            return BAD;
        }
        if (headCount >= HEADS_MOST) {
            return FULL;
        }
        int tree = keepTree(writer);
        if (tree < 0) {
            return tree;
        }
        reach.begin(false);
        reach.startAt(tree);
        if (!reach.goThrough() || !reachOwned(owner)) {
            return MISSING;
        }
        if (reach.bytes > quotas[owner]) {
            return OVER;
        }
        int snapshot = keepSnapshot(writer, owner, tree);
        if (snapshot < 0) {
            return snapshot;
        }
        if (!store.flush(0) || !store.flush(1)) {
            return FULL;
        }
        heads[headCount] = snapshot;
        headCount++;
        made++;
        return headCount - 1;
    }

    public int crash(int writer) {
        if (!isWriter(writer)) {
            return BAD;
        }
        writers[writer].forget();
        int open = DISK_PACKS + writer;
        int size = store.packs[open].size;
        store.wipe(open);
        return size;
    }

    // ---- snapshots

    public int drop(int k) {
        if (!isHead(k)) {
            return BAD;
        }
        for (int i = k; i + 1 < headCount; i++) {
            heads[i] = heads[i + 1];
        }
        headCount--;
        return headCount;
    }

    public int load(int k, int a, int b) {
        if (!isHead(k)) {
            return BAD;
        }
        int list = listUnder(k, a, b);
        if (list == NONE) {
            return NONE;
        }
        int n = list < 0 ? MISSING : readToTape(list);
        tapeSize = Math.max(n, 0);
        return n;
    }

    public int head(int k, int what) {
        if (!isHead(k) || what < 0 || what > 6) {
            return BAD;
        }
        if (what == 0) {
            return heads[k];
        }
        int snapshot = store.findSnapshot(heads[k]);
        if (snapshot < 0) {
            return MISSING;
        }
        int tree = store.twoIn(snapshot, TREE_AT);
        switch (what) {
            case 1:
                return store.byteIn(snapshot, 0);
            case 2:
                return store.twoIn(snapshot, NUMBER_AT);
            case 3:
                return store.twoIn(snapshot, BEFORE_AT);
            case 4:
                return tree;
            case 5:
                return entriesOf(tree);
            default:
                return bytesReachedBy(tree);
        }
    }

    public int owned(int owner) {
        if (!isOwner(owner)) {
            return BAD;
        }
        reach.begin(false);
        return reachOwned(owner) ? reach.bytes : MISSING;
    }

    // ---- the disk

    public int clean() {
        store.makeAnew();
        reach.begin(true);
        reachHeads();
        for (int w = 0; w < WRITERS; w++) {
            reachWork(writers[w]);
        }
        return store.sweep(reach.reached);
    }

    public int spoil(int pack, int place, int mask) {
        if (!isByteOfPack(pack, place) || mask < 1 || mask > 255) {
            return BAD;
        }
        return store.packs[pack].xorByte(place, mask);
    }

    public int lie(int i, int place) {
        if (!isRow(i) || place < 0 || place >= PACK_ROOM) {
            return BAD;
        }
        int told = store.rows.places[i];
        store.rows.places[i] = place;
        return told;
    }

    public int anew() {
        store.makeAnew();
        return store.rows.size;
    }

    public int rotten() {
        int rotten = 0;
        for (int p = 0; p < DISK_PACKS; p++) {
            rotten += store.packs[p].records - store.packs[p].rightRecords();
        }
        return rotten;
    }

    public int broken() {
        int bits = 0;
        for (int k = 0; k < headCount; k++) {
            int snapshot = store.findSnapshot(heads[k]);
            if (snapshot < 0 || bytesReachedBy(store.twoIn(snapshot, TREE_AT)) < 0) {
                bits |= 1 << k;
            }
        }
        return bits;
    }

    public int pack(int pack, int what) {
        if (!isPack(pack) || what < 0 || what > 2) {
            return BAD;
        }
        Pack it = store.packs[pack];
        if (what == 0) {
            return it.there ? it.size : NONE;
        }
        return what == 1 ? it.records : it.rightRecords();
    }

    public int packByte(int pack, int i) {
        return isByteOfPack(pack, i) ? store.packs[pack].byteAt(i) : BAD;
    }

    public int row(int i, int what) {
        if (!isRow(i)) {
            return BAD;
        }
        switch (what) {
            case 0:
                return store.rows.kinds[i];
            case 1:
                return store.rows.digests[i];
            case 2:
                return store.rows.packs[i];
            case 3:
                return store.rows.places[i];
            default:
                return BAD;
        }
    }

    public int count(int what) {
        switch (what) {
            case 0:
                return store.rows.size;
            case 1:
                return store.packsOnDisk();
            case 2:
                return headCount;
            case 3:
                return made;
            case 4:
                return tapeSize;
            case 5:
                return writers[0].entries;
            case 6:
                return writers[1].entries;
            default:
                return BAD;
        }
    }

    // ---- what there is

    private static boolean isWriter(int writer) {
        return writer >= 0 && writer < WRITERS;
    }

    private static boolean isOwner(int owner) {
        return owner >= 0 && owner < OWNERS;
    }

    private static boolean isFileNumber(int number) {
        return number >= 0 && number < FILES_MOST;
    }

    private static boolean isName(int name) {
        return name >= 0 && name < NAMES;
    }

    private static boolean isPack(int pack) {
        return pack >= 0 && pack < ALL_PACKS;
    }

    private boolean isHead(int k) {
        return k >= 0 && k < headCount;
    }

    private boolean isRow(int i) {
        return i >= 0 && i < store.rows.size;
    }

    private boolean isByteOfPack(int pack, int i) {
        return isPack(pack) && i >= 0 && i < store.packs[pack].size;
    }

    // ---- making blocks

    private void putOnTape(int number) {
        for (int shift = 24; shift >= 0; shift -= 8) {
            if (tapeSize < TAPE_ROOM) {
                tape[tapeSize] = (byte) (number >> shift);
                tapeSize++;
            }
        }
    }

    /** The place behind the PIECE that begins at a place of the tape. */
    private int pieceEnd(int from) {
        for (int i = from; i < tapeSize; i++) {
            int length = i - from + 1;
            if (length == PIECE_MOST || (length >= PIECE_LEAST && isCutBehind(i))) {
                return i + 1;
            }
        }
        return tapeSize;
    }

    /* The lowest four bits of a sum are the same for signed bytes. */
    private boolean isCutBehind(int i) {
        return i >= 3 && i < TAPE_ROOM && ((tape[i - 3] + tape[i - 2] + tape[i - 1] + tape[i]) & 15) == 0;
    }

    /** Keeps the tape's PIECES and puts their digests where the LIST's block has them: how many, or what went wrong. */
    private int keepPieces(int writer) {
        int pieces = 0;
        int from = 0;
        for (int i = 0; i < PIECES_MOST && from < tapeSize; i++) {
            int end = pieceEnd(from);
            int digest = store.keep(writer, PIECE, tape, from, end - from, comparing);
            if (digest < 0) {
                return digest;
            }
            putTwo(block, LIST_HEAD + 2 * i, digest);
            pieces++;
            from = end;
        }
        return pieces;
    }

    private int keepList(int writer, int pieces) {
        putTwo(block, 0, tapeSize);
        block[2] = (byte) pieces;
        return store.keep(writer, LIST, block, 0, LIST_HEAD + 2 * pieces, comparing);
    }

    private int keepTree(int writer) {
        int length = writers[writer].writeTree(block);
        return store.keep(writer, TREE, block, 0, length, comparing);
    }

    private int keepSnapshot(int writer, int owner, int tree) {
        block[0] = (byte) owner;
        putTwo(block, NUMBER_AT, made + 1);
        putTwo(block, BEFORE_AT, headCount > 0 ? heads[headCount - 1] : 0);
        putTwo(block, TREE_AT, tree);
        return store.keep(writer, SNAPSHOT, block, 0, SNAPSHOT_BYTES, comparing);
    }

    private static void putTwo(byte[] bytes, int at, int number) {
        if (at >= 0 && at + 1 < bytes.length) {
            bytes[at] = (byte) (number >> 8);
            bytes[at + 1] = (byte) number;
        }
    }

    private static int digestOf(int kind, byte[] bytes, int from, int length) {
        int h = 5381 + kind;
        int end = Math.min(from + length, bytes.length);
        for (int i = Math.max(from, 0); i < end; i++) {
            h = (33 * h ^ (bytes[i] & 0xFF)) & 0xFFFF;
        }
        return h ^ (h >> 5);
    }

    // ---- reading blocks

    /** The digest of the LIST that load asks for, NONE or MISSING. */
    private int listUnder(int k, int a, int b) {
        int snapshot = store.findSnapshot(heads[k]);
        if (snapshot < 0) {
            return MISSING;
        }
        int tree = store.findTree(store.twoIn(snapshot, TREE_AT));
        if (tree < 0) {
            return MISSING;
        }
        int at = store.entryUnder(tree, a, b == -1 ? LIST : TREE);
        if (b != -1 && at >= 0) {
            tree = store.findTree(store.twoIn(tree, at + 2));
            if (tree < 0) {
                return MISSING;
            }
            at = store.entryUnder(tree, b, LIST);
        }
        return at < 0 ? NONE : store.twoIn(tree, at + 2);
    }

    /** Puts the PIECES of a LIST on the tape: how many bytes, or MISSING. */
    private int readToTape(int digest) {
        int list = store.findList(digest);
        if (list < 0) {
            return MISSING;
        }
        int pieces = store.byteIn(list, 2);
        int bytes = 0;
        for (int i = 0; i < pieces; i++) {
            int piece = store.find(PIECE, store.twoIn(list, LIST_HEAD + 2 * i));
            if (piece < 0) {
                return MISSING;
            }
            store.copyBlock(piece, tape, bytes);
            bytes += store.lengthOf(piece);
        }
        return bytes == store.twoIn(list, 0) ? bytes : MISSING;
    }

    private int entriesOf(int digest) {
        int tree = store.findTree(digest);
        return tree < 0 ? MISSING : store.lengthOf(tree) / ENTRY_BYTES;
    }

    private int bytesReachedBy(int tree) {
        reach.begin(false);
        reach.startAt(tree);
        return reach.goThrough() ? reach.bytes : MISSING;
    }

    /** Whether all SNAPSHOTS of HEADS are there, and all that the owner's reach. */
    private boolean reachOwned(int owner) {
        for (int k = 0; k < headCount; k++) {
            int snapshot = store.findSnapshot(heads[k]);
            if (snapshot < 0) {
                return false;
            }
            if (store.byteIn(snapshot, 0) == owner) {
                reach.startAt(store.twoIn(snapshot, TREE_AT));
                if (!reach.goThrough()) {
                    return false;
                }
            }
        }
        return true;
    }

    private void reachHeads() {
        for (int k = 0; k < headCount; k++) {
            int snapshot = store.find(SNAPSHOT, heads[k]);
            if (snapshot >= 0) {
                reach.note(SNAPSHOT, heads[k], store.lengthOf(snapshot));
                if (store.isSnapshot(snapshot)) {
                    reach.startAt(store.twoIn(snapshot, TREE_AT));
                    reach.goThrough();
                }
            }
        }
    }

    private void reachWork(Writer writer) {
        for (int i = 0; i < FILES_MOST; i++) {
            if (writer.files[i] >= 0) {
                reach.meetList(writer.files[i]);
            }
        }
        reach.startNew();
        for (int i = 0; i < writer.entries; i++) {
            /* The TREE in work is the first level itself, though no block is asked for it. */
            reach.name(writer.kinds[i], writer.digests[i], 2);
        }
        reach.goThrough();
    }

    /** A WRITER's FILES and TREE in work; its open PACK is the store's. */
    private static final class Writer {
        final int[] files = new int[FILES_MOST];
        final int[] names = new int[ENTRIES_MOST];
        final int[] kinds = new int[ENTRIES_MOST];
        final int[] digests = new int[ENTRIES_MOST];
        int entries = 0;

        Writer() {
            Arrays.fill(files, NOWHERE);
        }

        void forget() {
            Arrays.fill(files, NOWHERE);
            entries = 0;
        }

        /** The first place whose name is not below this one. */
        int placeFor(int name) {
            for (int i = 0; i < entries; i++) {
                if (names[i] >= name) {
                    return i;
                }
            }
            return entries;
        }

        boolean isAt(int place, int name) {
            return place < entries && names[place] == name;
        }

        boolean hasRoomFor(int name) {
            return entries < ENTRIES_MOST || isAt(placeFor(name), name);
        }

        int putEntry(int name, int kind, int digest) {
            if (!hasRoomFor(name)) {
                return FULL;
            }
            int place = placeFor(name);
            if (!isAt(place, name)) {
                for (int i = entries; i > place; i--) {
                    copyEntry(i - 1, i);
                }
                entries++;
            }
            names[place] = name;
            kinds[place] = kind;
            digests[place] = digest;
            return entries;
        }

        int takeEntry(int name) {
            int place = placeFor(name);
            if (!isAt(place, name)) {
                return BAD;
            }
            for (int i = place; i + 1 < entries; i++) {
                copyEntry(i + 1, i);
            }
            entries--;
            return entries;
        }

        void copyEntry(int from, int to) {
            names[to] = names[from];
            kinds[to] = kinds[from];
            digests[to] = digests[from];
        }

        /** Writes the block of the TREE in work: how many bytes. */
        int writeTree(byte[] block) {
            for (int i = 0; i < entries && ENTRY_BYTES * i + 3 < block.length; i++) {
                block[ENTRY_BYTES * i] = (byte) names[i];
                block[ENTRY_BYTES * i + 1] = (byte) kinds[i];
                putTwo(block, ENTRY_BYTES * i + 2, digests[i]);
            }
            return ENTRY_BYTES * entries;
        }
    }

    /** A row of bytes, with what READING it comes to: where its RECORDS are and which of them are RIGHT. */
    private static final class Pack {
        final byte[] bytes = new byte[PACK_ROOM];
        final int[] places = new int[PACK_RECORDS];
        final int[] kinds = new int[PACK_RECORDS];
        final int[] digests = new int[PACK_RECORDS];
        final boolean[] right = new boolean[PACK_RECORDS];
        boolean there = false;
        int size = 0;
        int records = 0;
        int readTo = 0;

        int byteAt(int i) {
            return i >= 0 && i < size ? bytes[i] & 0xFF : 0;
        }

        int twoAt(int i) {
            return byteAt(i) << 8 | byteAt(i + 1);
        }

        int kindAt(int place) {
            return byteAt(place);
        }

        int lengthAt(int place) {
            return byteAt(place + 1) << 8 | byteAt(place + 2);
        }

        int digestAt(int place) {
            return byteAt(place + 3) << 8 | byteAt(place + 4);
        }

        boolean hasRoomFor(int length) {
            return size + RECORD_HEAD + length <= PACK_ROOM;
        }

        void empty() {
            there = false;
            size = 0;
            records = 0;
            readTo = 0;
        }

        void append(int kind, int digest, byte[] from, int at, int length) {
            if (length < 0 || at < 0 || at + length > from.length || !hasRoomFor(length)) {
                return;
            }
            bytes[size] = (byte) kind;
            putTwo(bytes, size + 1, length);
            putTwo(bytes, size + 3, digest);
            System.arraycopy(from, at, bytes, size + RECORD_HEAD, length);
            size += RECORD_HEAD + length;
            readOn();
        }

        int xorByte(int place, int mask) {
            if (place < 0 || place >= size) {
                return BAD;
            }
            bytes[place] = (byte) (bytes[place] ^ mask);
            records = 0;
            readTo = 0;
            readOn();
            return byteAt(place);
        }

        /* What was read before stays true while bytes only come behind; so reading goes on where it ended. */
        void readOn() {
            for (int i = records; i < PACK_RECORDS && isRecordAt(readTo); i++) {
                int length = lengthAt(readTo);
                places[i] = readTo;
                kinds[i] = kindAt(readTo);
                digests[i] = digestAt(readTo);
                right[i] = digests[i] == digestOf(kinds[i], bytes, readTo + RECORD_HEAD, length);
                records = i + 1;
                readTo += RECORD_HEAD + length;
            }
        }

        boolean isRecordAt(int place) {
            return place + RECORD_HEAD <= size && kindAt(place) >= PIECE && kindAt(place) <= SNAPSHOT
                    && place + RECORD_HEAD + lengthAt(place) <= size;
        }

        int rightRecords() {
            int n = 0;
            for (int i = 0; i < records; i++) {
                n += right[i] ? 1 : 0;
            }
            return n;
        }

        /** Whether reading comes to a RIGHT RECORD of that KIND and DIGEST at a place. */
        boolean hasRight(int kind, int digest, int place) {
            for (int i = 0; i < records; i++) {
                if (places[i] == place) {
                    return right[i] && kinds[i] == kind && digests[i] == digest;
                }
            }
            return false;
        }
    }

    /** THE INDEX. A row comes only where none of its KIND and DIGEST is, so the first such row is the only one. */
    private static final class Rows {
        final int[] kinds = new int[ROW_ROOM];
        final int[] digests = new int[ROW_ROOM];
        final int[] packs = new int[ROW_ROOM];
        final int[] places = new int[ROW_ROOM];
        final int[] nextInBucket = new int[ROW_ROOM];
        final int[] firstInBucket = new int[BUCKETS];
        int size = 0;

        Rows() {
            Arrays.fill(firstInBucket, NOWHERE);
        }

        void empty() {
            for (int i = 0; i < BUCKETS; i++) {
                firstInBucket[i] = NOWHERE;
            }
            size = 0;
        }

        int rowOf(int kind, int digest) {
            int row = firstInBucket[(digest + kind) & (BUCKETS - 1)];
            for (int i = 0; i < size && row >= 0 && row < size; i++) {
                if (digests[row] == digest && kinds[row] == kind) {
                    return row;
                }
                row = nextInBucket[row];
            }
            return NOWHERE;
        }

        void add(int kind, int digest, int pack, int place) {
            if (size >= ROW_ROOM) {
                return;
            }
            kinds[size] = kind;
            digests[size] = digest;
            packs[size] = pack;
            places[size] = place;
            int bucket = (digest + kind) & (BUCKETS - 1);
            nextInBucket[size] = firstInBucket[bucket];
            firstInBucket[bucket] = size;
            size++;
        }

        void renumber(int from, int to) {
            for (int i = 0; i < size; i++) {
                if (packs[i] == from) {
                    packs[i] = to;
                }
            }
        }

        void forgetPack(int pack) {
            int before = size;
            empty();
            for (int i = 0; i < before; i++) {
                if (packs[i] != pack) {
                    add(kinds[i], digests[i], packs[i], places[i]);
                }
            }
        }
    }

    /** THE DISK's PACKS, the open ones and THE INDEX. A found block is told as a spot: its PACK's number and place in one. */
    private static final class Store {
        final Pack[] packs = new Pack[ALL_PACKS];
        final boolean[] thereAtFirst = new boolean[DISK_PACKS];
        final Rows rows = new Rows();

        Store() {
            for (int p = 0; p < ALL_PACKS; p++) {
                packs[p] = new Pack();
                packs[p].there = p >= DISK_PACKS;
            }
        }

        int packsOnDisk() {
            int n = 0;
            for (int p = 0; p < DISK_PACKS; p++) {
                n += packs[p].there ? 1 : 0;
            }
            return n;
        }

        int leastFree() {
            for (int p = 0; p < DISK_PACKS; p++) {
                if (!packs[p].there) {
                    return p;
                }
            }
            return NOWHERE;
        }

        /** A PACK goes, its rows too; an open one is there again, empty. */
        void wipe(int pack) {
            packs[pack].empty();
            packs[pack].there = pack >= DISK_PACKS;
            rows.forgetPack(pack);
        }

        int find(int kind, int digest) {
            int row = rows.rowOf(kind, digest);
            if (row < 0 || !isTrue(row)) {
                makeAnew();
                row = rows.rowOf(kind, digest);
            }
            return row < 0 ? NOWHERE : spotOf(row);
        }

        int spotOf(int row) {
            return rows.packs[row] * PACK_ROOM + rows.places[row];
        }

        boolean isTrue(int row) {
            return packOf(spotOf(row)).hasRight(rows.kinds[row], rows.digests[row], rows.places[row]);
        }

        void makeAnew() {
            rows.empty();
            for (int p = 0; p < ALL_PACKS; p++) {
                Pack pack = packs[p];
                for (int i = 0; i < pack.records; i++) {
                    if (pack.right[i] && rows.rowOf(pack.kinds[i], pack.digests[i]) < 0) {
                        rows.add(pack.kinds[i], pack.digests[i], p, pack.places[i]);
                    }
                }
            }
        }

        Pack packOf(int spot) {
            int pack = spot / PACK_ROOM;
            return packs[isPack(pack) ? pack : 0];
        }

        int lengthOf(int spot) {
            return packOf(spot).lengthAt(spot % PACK_ROOM);
        }

        int byteIn(int spot, int i) {
            return packOf(spot).byteAt(spot % PACK_ROOM + RECORD_HEAD + i);
        }

        int twoIn(int spot, int i) {
            return packOf(spot).twoAt(spot % PACK_ROOM + RECORD_HEAD + i);
        }

        /** Copies a block's bytes, if there is room for them. */
        void copyBlock(int spot, byte[] to, int at) {
            int from = spot % PACK_ROOM + RECORD_HEAD;
            int length = lengthOf(spot);
            if (from >= 0 && from + length <= PACK_ROOM && at >= 0 && at + length <= to.length) {
                System.arraycopy(packOf(spot).bytes, from, to, at, length);
            }
        }

        boolean isSnapshot(int spot) {
            return lengthOf(spot) == SNAPSHOT_BYTES;
        }

        boolean isTree(int spot) {
            int length = lengthOf(spot);
            for (int i = 1; i < length; i += ENTRY_BYTES) {
                int kind = byteIn(spot, i);
                if (kind != LIST && kind != TREE) {
                    return false;
                }
            }
            return length % ENTRY_BYTES == 0;
        }

        boolean isList(int spot) {
            int length = lengthOf(spot);
            return length >= LIST_HEAD && length == LIST_HEAD + 2 * byteIn(spot, 2) && twoIn(spot, 0) <= TAPE_ROOM;
        }

        int findSnapshot(int digest) {
            int spot = find(SNAPSHOT, digest);
            return spot >= 0 && isSnapshot(spot) ? spot : NOWHERE;
        }

        int findTree(int digest) {
            int spot = find(TREE, digest);
            return spot >= 0 && isTree(spot) ? spot : NOWHERE;
        }

        int findList(int digest) {
            int spot = find(LIST, digest);
            return spot >= 0 && isList(spot) ? spot : NOWHERE;
        }

        /** Where in a TREE's block the entry of a name is, if it is of that kind. */
        int entryUnder(int tree, int name, int kind) {
            int length = lengthOf(tree);
            for (int i = 0; i < length; i += ENTRY_BYTES) {
                if (byteIn(tree, i) == name) {
                    return byteIn(tree, i + 1) == kind ? i : NOWHERE;
                }
            }
            return NOWHERE;
        }

        /** Keeps a block: its digest, CLASH or FULL. */
        int keep(int writer, int kind, byte[] bytes, int from, int length, boolean comparing) {
            int digest = digestOf(kind, bytes, from, length);
            int spot = find(kind, digest);
            if (spot >= 0) {
                if (comparing && !hasBytes(spot, bytes, from, length)) {
                    return CLASH;
                }
                int other = WRITERS - 1 - writer;
                boolean isTheOthers = spot / PACK_ROOM == DISK_PACKS + other;
                return isTheOthers && !flush(other) ? FULL : digest;
            }
            int open = DISK_PACKS + writer;
            if (!packs[open].hasRoomFor(length) && !flush(writer)) {
                return FULL;
            }
            /* A flush puts another object in the open PACK's place, so it is looked up behind it. */
            int place = packs[open].size;
            packs[open].append(kind, digest, bytes, from, length);
            rows.add(kind, digest, open, place);
            return digest;
        }

        boolean hasBytes(int spot, byte[] bytes, int from, int length) {
            if (lengthOf(spot) != length || from < 0 || from + length > bytes.length) {
                return false;
            }
            for (int i = 0; i < length; i++) {
                if (byteIn(spot, i) != (bytes[from + i] & 0xFF)) {
                    return false;
                }
            }
            return true;
        }

        /** Brings a WRITER's open PACK to the disk, if it is not empty: whether there was room. */
        boolean flush(int writer) {
            int open = DISK_PACKS + writer;
            if (packs[open].size == 0) {
                return true;
            }
            int free = leastFree();
            if (free < 0) {
                return false;
            }
            Pack spare = packs[free];
            packs[free] = packs[open];
            spare.empty();
            spare.there = true;
            packs[open] = spare;
            rows.renumber(open, free);
            return true;
        }

        /** Cleans the disk of what is not live: how many PACKS went, or FULL. */
        int sweep(BlockSet live) {
            for (int p = 0; p < DISK_PACKS; p++) {
                thereAtFirst[p] = packs[p].there;
            }
            int went = 0;
            for (int p = 0; p < DISK_PACKS; p++) {
                int bytes = liveBytes(p, live);
                boolean goes = bytes == 0 || 2 * bytes < packs[p].size;
                if (!thereAtFirst[p] || !goes) {
                    continue;
                }
                if (bytes > 0 && !moveLive(p, live)) {
                    return FULL;
                }
                wipe(p);
                went++;
            }
            return went;
        }

        int liveBytes(int number, BlockSet live) {
            Pack pack = packs[number];
            int bytes = 0;
            for (int i = 0; i < pack.records; i++) {
                if (liveRow(number, i, live) >= 0) {
                    bytes += RECORD_HEAD + pack.lengthAt(pack.places[i]);
                }
            }
            return bytes;
        }

        /** The row that tells this RECORD of a PACK, if it is a live one. */
        int liveRow(int number, int record, BlockSet live) {
            Pack pack = packs[number];
            int row = rows.rowOf(pack.kinds[record], pack.digests[record]);
            boolean told = row >= 0 && rows.packs[row] == number && rows.places[row] == pack.places[record];
            return told && live.has(pack.kinds[record], pack.digests[record]) ? row : NOWHERE;
        }

        /** Brings the live RECORDS of a PACK to a new one: whether there was room. */
        boolean moveLive(int number, BlockSet live) {
            int free = leastFree();
            if (free < 0) {
                return false;
            }
            Pack old = packs[number];
            Pack fresh = packs[free];
            fresh.empty();
            fresh.there = true;
            for (int i = 0; i < old.records; i++) {
                int row = liveRow(number, i, live);
                if (row >= 0) {
                    int place = old.places[i];
                    rows.packs[row] = free;
                    rows.places[row] = fresh.size;
                    fresh.append(old.kinds[i], old.digests[i], old.bytes, place + RECORD_HEAD, old.lengthAt(place));
                }
            }
            return true;
        }
    }

    /** Blocks by KIND and DIGEST, a bit each; the members are kept too, so that emptying takes no longer than filling. */
    private static final class BlockSet {
        final long[] bits = new long[4 << 10];
        final int[] members = new int[NAMED_ROOM];
        int size = 0;

        static int keyOf(int kind, int digest) {
            return (kind - 1 & 3) << 16 | digest & 0xFFFF;
        }

        boolean has(int kind, int digest) {
            int key = keyOf(kind, digest);
            return (bits[key >> 6] >> (key & 63) & 1) != 0;
        }

        /** Whether it is new. */
        boolean add(int kind, int digest) {
            if (has(kind, digest) || size >= NAMED_ROOM) {
                return false;
            }
            int key = keyOf(kind, digest);
            bits[key >> 6] |= 1L << (key & 63);
            members[size] = key;
            size++;
            return true;
        }

        void empty() {
            for (int i = 0; i < size; i++) {
                bits[members[i] >> 6] = 0;
            }
            size = 0;
        }
    }

    /** What TREES reach, level by level. It ends at the first that is MISSING or, for cleaning, goes on behind it. */
    private static final class Reach {
        final Store store;
        final BlockSet reached = new BlockSet();
        final BlockSet named = new BlockSet();
        final int[] kinds = new int[NAMED_ROOM];
        final int[] digests = new int[NAMED_ROOM];
        final int[] levels = new int[NAMED_ROOM];
        int waiting = 0;
        int bytes = 0;
        boolean goesOn = false;

        Reach(Store store) {
            this.store = store;
        }

        /** From now on blocks are counted anew. */
        void begin(boolean goingOn) {
            reached.empty();
            bytes = 0;
            goesOn = goingOn;
        }

        /** What was reached counts on, but each TREE and LIST may be met again. */
        void startNew() {
            named.empty();
            waiting = 0;
        }

        void startAt(int tree) {
            startNew();
            name(TREE, tree, 1);
        }

        void name(int kind, int digest, int level) {
            if (waiting < NAMED_ROOM && named.add(kind, digest)) {
                kinds[waiting] = kind;
                digests[waiting] = digest;
                levels[waiting] = level;
                waiting++;
            }
        }

        /** Meets all that wait, and what they name: whether nothing was missing. */
        boolean goThrough() {
            boolean whole = true;
            for (int i = 0; i < waiting && i < NAMED_ROOM; i++) {
                boolean good = kinds[i] == TREE ? meetTree(digests[i], levels[i]) : meetList(digests[i]);
                if (!good && !goesOn) {
                    return false;
                }
                whole = whole && good;
            }
            return whole;
        }

        /* No spot moves while TREES are gone through, so a spot tells the bytes as they were when it was met. */
        boolean meetTree(int digest, int level) {
            int tree = level > LEVELS_MOST ? NOWHERE : store.find(TREE, digest);
            if (tree < 0) {
                return false;
            }
            int length = store.lengthOf(tree);
            note(TREE, digest, length);
            if (!store.isTree(tree)) {
                return false;
            }
            for (int i = 0; i < length; i += ENTRY_BYTES) {
                name(store.byteIn(tree, i + 1), store.twoIn(tree, i + 2), level + 1);
            }
            return true;
        }

        boolean meetList(int digest) {
            int list = store.find(LIST, digest);
            if (list < 0) {
                return false;
            }
            note(LIST, digest, store.lengthOf(list));
            if (!store.isList(list)) {
                return false;
            }
            int pieces = store.byteIn(list, 2);
            int sum = 0;
            for (int i = 0; i < pieces; i++) {
                int digestOfPiece = store.twoIn(list, LIST_HEAD + 2 * i);
                int piece = store.find(PIECE, digestOfPiece);
                if (piece >= 0) {
                    note(PIECE, digestOfPiece, store.lengthOf(piece));
                    sum += store.lengthOf(piece);
                } else if (!goesOn) {
                    return false;
                }
            }
            return sum == store.twoIn(list, 0);
        }

        void note(int kind, int digest, int length) {
            if (reached.add(kind, digest)) {
                bytes += length;
            }
        }
    }
}
