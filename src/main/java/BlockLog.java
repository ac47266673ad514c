import java.util.ArrayList;

/**
 * The disk of one node that keeps blocks. The bytes of the disk are the truth; what stands beside them in this object
 * (states of rows and pages, what rows say) is only remembered so that it need not be read anew.
 */
public final class BlockLog {
    public static final int NONE = -1, FULL = -2, NEED = -3, OFF = -4, LOST = -5, UNKNOWN = -6, LATE = -7, WEAK = -8, OTHER = -9, WRONG = -10;

    private static final int VOTE = 1, BLOCK = 2, CHANGE = 3, CERTIFICATE = 4, BASE = 5;
    private static final int UNSEEN = 0, FREE = 1, RIGHT = 2, TORN = 3, BAD = 4;
    private static final int BY_HEAD = 1, BY_ROW = 2, BY_PAGE = 3, BY_BLOCK = 4, BY_SNAPSHOT = 5;

    private static final int SEAL = 165;
    private static final int SUM_BYTES = 8;
    private static final int HEAD_BYTES = 16, HEAD_BODY = 8;
    private static final int ROW_BYTES = 32, ROW_BODY = 23;
    private static final int PAGE_BYTES = 26, PAGE_BODY = 17;
    private static final int A_AT = 1, B_AT = 5, C_AT = 9;
    private static final int AREA_ROWS = 128, AREA_BYTES = 4096;
    private static final int FIRST_ROW = 32, FIRST_PAGE = 8224;

    private static final int MOST_PAGES = 65536;
    private static final int MOST_ACTS = 5000;
    private static final int MOST_HEIGHT = 1000000;
    private static final int MOST_ROUND = 1000000;
    private static final int MOST_COLLECTED = 8;
    private static final int MOST_CHANGES = 16;
    private static final int SLOTS = 16;
    private static final int LEAF_BYTES = 16;
    private static final int TAPE_BYTES = 400;
    private static final int SNAPSHOT_HEAD = 13;
    private static final int ALL_SIGNERS = 15, ENOUGH_SIGNERS = 3;

    private final Tape tape;
    private final Disk disk;
    private final Rows rows;
    private final Story story;
    private final Pruning pruning;
    private final Snapshot snapshot;
    private final byte[] pageImage;
    private final int[] collectedSlots;
    private final long[] collectedLeaves;
    private int collected;

    public BlockLog(int pages) {
        int count = pages < 1 ? 1 : pages > MOST_PAGES ? MOST_PAGES : pages;
        tape = new Tape();
        disk = new Disk(count);
        rows = new Rows(disk);
        story = new Story(rows);
        pruning = new Pruning(disk, rows, story);
        snapshot = new Snapshot();
        pageImage = new byte[PAGE_BYTES];
        collectedSlots = new int[MOST_COLLECTED];
        collectedLeaves = new long[MOST_COLLECTED];
        collected = 0;
    }

    public int feed(long w, int n) throws IllegalArgumentException {
        if (n < 1 || n > 8) {
            throw new IllegalArgumentException("n is not 1 .. 8");
        }
        if (tape.count + n > TAPE_BYTES) {
            throw new IllegalArgumentException("the tape has no place for so many");
        }
        for (int i = n - 1; i >= 0; i--) {
            tape.append((int) (w >>> (8 * i)));
        }
        return tape.count;
    }

    public int wipe() {
        int had = tape.count;
        tape.count = 0;
        return had;
    }

    public int at(int i) throws IndexOutOfBoundsException {
        if (i < 0 || i >= tape.count) {
            throw new IndexOutOfBoundsException("no such byte of the tape");
        }
        return tape.bytes[i] & 0xFF;
    }

    public int leaf() throws IllegalStateException, IllegalArgumentException {
        demandPower();
        int n = tape.count;
        if (n < 1 || n > LEAF_BYTES) {
            throw new IllegalArgumentException("the tape has not 1 .. 16 bytes");
        }
        if (rows.inNeed()) {
            return NEED;
        }
        drawPage(0, n);
        int answer = putLeaf();
        if (answer != FULL) {
            tape.count = 0;
        }
        return answer;
    }

    public int change(int slot, int page) throws IllegalStateException, IllegalArgumentException {
        demandPower();
        if (slot < 0 || slot >= SLOTS) {
            throw new IllegalArgumentException("no such slot");
        }
        if (page != NONE && (page < 0 || page >= disk.pageCount)) {
            throw new IllegalArgumentException("no such page");
        }
        long leaf = 0;
        if (page != NONE) {
            Page held = disk.rightPage(page);
            if (held == null) {
                return UNKNOWN;
            }
            leaf = held.sum();
        }
        if (collected >= MOST_COLLECTED) {
            return FULL;
        }
        collectedSlots[collected] = slot;
        collectedLeaves[collected] = leaf;
        collected++;
        return collected;
    }

    public int block(int height, long parent) throws IllegalStateException, IllegalArgumentException {
        demandPower();
        demandHeight(height);
        if (rows.inNeed()) {
            return NEED;
        }
        long above = story.meant(parent);
        int parentHeight = story.heightOfParent(above);
        if (parentHeight == NONE) {
            return UNKNOWN;
        }
        if (height != parentHeight + 1) {
            return WRONG;
        }
        int same = story.blockRow(collectedDigest(height, above));
        if (same == NONE && rows.count + 1 + collected > AREA_ROWS) {
            return FULL;
        }
        int count = collected;
        collected = 0;
        return same != NONE ? same : writeBlock(height, above, count);
    }

    public long digest(int row) throws IndexOutOfBoundsException, IllegalStateException {
        demandRow(row);
        demandPower();
        return story.digestAt(row);
    }

    public int vote(int height, int round, long digest) throws IllegalStateException, IllegalArgumentException {
        demandPower();
        demandHeight(height);
        if (round < 0 || round > MOST_ROUND) {
            throw new IllegalArgumentException("round is not 0 .. 1000000");
        }
        if (rows.inNeed()) {
            return NEED;
        }
        long meant = story.meant(digest);
        int block = story.blockRow(meant);
        if (block == NONE || rows.a(block) != height) {
            return UNKNOWN;
        }
        int last = story.lastVote;
        if (last != NONE) {
            int lastHeight = rows.a(last);
            int lastRound = rows.b(last);
            if (lastHeight == height && lastRound == round && rows.c(last) == meant) {
                return last;
            }
            if (lastHeight > height || lastHeight == height && lastRound >= round) {
                return LATE;
            }
        }
        if (rows.count >= AREA_ROWS) {
            return FULL;
        }
        return append(VOTE, height, round, meant) ? rows.count - 1 : OFF;
    }

    public boolean sent(int row) throws IndexOutOfBoundsException, IllegalStateException {
        demandRow(row);
        demandPower();
        return rows.state(row) == RIGHT && rows.kind(row) == VOTE;
    }

    public int certify(long digest, int signers) throws IllegalStateException, IllegalArgumentException {
        demandPower();
        if (signers < 0 || signers > ALL_SIGNERS) {
            throw new IllegalArgumentException("signers is not 0 .. 15");
        }
        if (rows.inNeed()) {
            return NEED;
        }
        long meant = story.meant(digest);
        int block = story.blockRow(meant);
        if (block == NONE) {
            return UNKNOWN;
        }
        if (Integer.bitCount(signers) < ENOUGH_SIGNERS) {
            return WEAK;
        }
        int height = rows.a(block);
        if (story.isCertified(block)) {
            return height;
        }
        if (!story.isNext(block)) {
            return OTHER;
        }
        if (rows.count >= AREA_ROWS) {
            return FULL;
        }
        return append(CERTIFICATE, height, signers, meant) ? height : OFF;
    }

    public int version(int what) throws IllegalStateException, IllegalArgumentException {
        demandPower();
        if (what != 0 && what != 1) {
            throw new IllegalArgumentException("what is not 0 or 1");
        }
        return what == 0 ? story.lastVersion() : story.baseHeight;
    }

    public long slot(int version, int slot) throws IllegalStateException, IllegalArgumentException {
        demandPower();
        if (slot < 0 || slot >= SLOTS) {
            throw new IllegalArgumentException("no such slot");
        }
        if (!story.isKept(version)) {
            throw new IllegalArgumentException("the version is not kept");
        }
        story.drawVersion(version);
        return story.slots[slot];
    }

    public int page(long digest) throws IllegalStateException {
        demandPower();
        Page held = disk.pageOf(digest);
        return held == null ? NONE : held.number;
    }

    public int byteOf(int page, int i) throws IndexOutOfBoundsException, IllegalStateException {
        demandPage(page);
        if (i < 0 || i >= LEAF_BYTES) {
            throw new IndexOutOfBoundsException("i is not 0 .. 15");
        }
        demandPower();
        Page held = disk.rightPage(page);
        return held == null || i >= held.size() ? NONE : held.bytes[1 + i] & 0xFF;
    }

    public boolean named(int page) throws IndexOutOfBoundsException, IllegalStateException {
        demandPage(page);
        demandPower();
        Page held = disk.rightPage(page);
        return held != null && story.names(held.sum());
    }

    public int prune(int height) throws IllegalStateException, IllegalArgumentException {
        demandPower();
        if (rows.inNeed()) {
            return NEED;
        }
        if (height <= story.baseHeight || height > story.lastVersion()) {
            throw new IllegalArgumentException("the height is not above THE BASE'S, or above the last version's");
        }
        if (pruning.mark(height) > AREA_ROWS) {
            return FULL;
        }
        if (!pruning.move(height)) {
            return OFF;
        }
        story.hearAnew();
        return disk.eraseHead(1 - rows.area) ? eraseUnnamed() : OFF;
    }

    public int out(int version) throws IllegalStateException, IllegalArgumentException {
        demandPower();
        if (version == 0 || !story.isKept(version)) {
            throw new IllegalArgumentException("the version is not kept, or 0");
        }
        story.drawVersion(version);
        for (int slot = 0; slot < SLOTS; slot++) {
            if (story.slots[slot] != 0 && disk.pageOf(story.slots[slot]) == null) {
                return UNKNOWN;
            }
        }
        writeSnapshot(version);
        return tape.count;
    }

    public int in() throws IllegalStateException {
        demandPower();
        if (rows.inNeed()) {
            return NEED;
        }
        if (rows.count > 0) {
            return OTHER;
        }
        if (!snapshot.read(tape)) {
            return WRONG;
        }
        if (newLeaves() > disk.freePages()) {
            return FULL;
        }
        tape.count = 0;
        return putSnapshot() ? snapshot.height : OFF;
    }

    public void cut(int acts) throws IllegalArgumentException {
        if (acts < NONE || acts > MOST_ACTS) {
            throw new IllegalArgumentException("acts is neither NONE nor 0 .. 5000");
        }
        disk.actsLeft = acts;
    }

    public boolean off() {
        boolean was = disk.powered;
        disk.powered = false;
        collected = 0;
        return was;
    }

    public int open() {
        if (disk.powered) {
            return rows.count;
        }
        if (!rows.choose()) {
            return LOST;
        }
        disk.powered = true;
        if (!recover()) {
            return OFF;
        }
        story.hearAnew();
        return rows.count;
    }

    public int poke(int place, int mask) throws IndexOutOfBoundsException, IllegalStateException, IllegalArgumentException {
        demandPlace(place);
        if (disk.powered) {
            throw new IllegalStateException("the power is on");
        }
        if (mask < 0 || mask > 255) {
            throw new IllegalArgumentException("mask is not 0 .. 255");
        }
        int value = disk.read(place) ^ mask;
        disk.set(place, value);
        return value;
    }

    public int byteAt(int place) throws IndexOutOfBoundsException {
        demandPlace(place);
        return disk.read(place);
    }

    public int asked(int k) throws IllegalStateException {
        demandPower();
        if (k < 0) {
            return NONE;
        }
        if (k < rows.bad) {
            return rows.badRow(k);
        }
        Page held = disk.badPage(k - rows.bad);
        return held == null ? NONE : AREA_ROWS + held.number;
    }

    public int mend(int what) throws IllegalStateException, IllegalArgumentException {
        demandPower();
        if (!isAsked(what)) {
            throw new IllegalArgumentException("it is not asked for");
        }
        boolean isRow = what < AREA_ROWS;
        boolean right = isRow ? rows.drawMended(what, tape) : drawMendedPage(what - AREA_ROWS);
        if (!right) {
            return WRONG;
        }
        tape.count = 0;
        boolean done = isRow ? rows.rewrite(what) : disk.writePage(what - AREA_ROWS, pageImage);
        if (!done) {
            return OFF;
        }
        if (isRow) {
            story.hearAnew();
        }
        return rows.bad + disk.badPages();
    }

    public int told(int what) throws IllegalArgumentException {
        if (what < 0 || what > 8) {
            throw new IllegalArgumentException("what is not 0 .. 8");
        }
        if (what == 1) {
            return disk.actsDone;
        }
        if (!disk.powered) {
            return 0;
        }
        switch (what) {
            case 2:
                return rows.area;
            case 3:
                return rows.generation;
            case 4:
                return rows.count;
            case 5:
                return disk.freePages();
            case 6:
                return rows.bad;
            case 7:
                return disk.badPages();
            case 8:
                return collected;
            default:
                return 1;
        }
    }

    private void demandPower() {
        if (!disk.powered) {
            throw new IllegalStateException("the power is off");
        }
    }

    private static void demandHeight(int height) {
        if (!isHeight(height)) {
            throw new IllegalArgumentException("height is not 1 .. 1000000");
        }
    }

    private void demandRow(int row) {
        int count = disk.powered ? rows.count : AREA_ROWS;
        if (row < 0 || row >= count) {
            throw new IndexOutOfBoundsException("no such row");
        }
    }

    private void demandPage(int page) {
        if (page < 0 || page >= disk.pageCount) {
            throw new IndexOutOfBoundsException("no such page");
        }
    }

    private void demandPlace(int place) {
        if (place < 0 || place >= FIRST_PAGE + PAGE_BYTES * disk.pageCount) {
            throw new IndexOutOfBoundsException("no such place");
        }
    }

    private static boolean isHeight(int height) {
        return height >= 1 && height <= MOST_HEIGHT;
    }

    private boolean recover() {
        if (!rows.clear() || !rows.inNeed() && !rows.dropLacking()) {
            return false;
        }
        return disk.eraseTornPages() && rows.seal() && disk.sealPages();
    }

    private boolean append(int kind, int a, int b, long c) {
        if (!rows.write(kind, a, b, c)) {
            return false;
        }
        story.hear();
        return true;
    }

    /** Makes the image of the page of a leaf of n bytes that stand on the tape. */
    private void drawPage(int from, int n) {
        pageImage[0] = (byte) n;
        for (int i = 0; i < LEAF_BYTES; i++) {
            pageImage[1 + i] = i < n && from + i < TAPE_BYTES ? tape.bytes[from + i] : 0;
        }
        Bytes.close(pageImage, PAGE_BODY, BY_PAGE);
    }

    /** Puts the leaf of the image: its page, FULL or OFF. */
    private int putLeaf() {
        int same = disk.sameLeaf(pageImage);
        if (same != NONE) {
            return same;
        }
        int free = disk.firstFree();
        if (free == NONE) {
            return FULL;
        }
        return disk.writePage(free, pageImage) ? free : OFF;
    }

    private long collectedDigest(int height, long parent) {
        long s = Bytes.addLong(Bytes.addInt(Bytes.start(BY_BLOCK), height), parent);
        for (int i = 0; i < collected; i++) {
            s = Bytes.addLong(Bytes.addInt(s, collectedSlots[i]), collectedLeaves[i]);
        }
        return s;
    }

    private int writeBlock(int height, long parent, int changes) {
        int row = rows.count;
        if (!rows.write(BLOCK, height, changes, parent)) {
            return OFF;
        }
        for (int i = 0; i < changes; i++) {
            if (!rows.write(CHANGE, collectedSlots[i], 0, collectedLeaves[i])) {
                return OFF;
            }
        }
        story.hear();
        return row;
    }

    private int eraseUnnamed() {
        int erased = 0;
        for (int i = 0; i < disk.touched.size(); i++) {
            Page held = disk.touched.get(i);
            if (held.state() == RIGHT && !story.names(held.sum())) {
                if (!disk.erasePage(held)) {
                    return OFF;
                }
                erased++;
            }
        }
        return erased;
    }

    /** Needs the slots drawn, and a page for each of their leaves. */
    private void writeSnapshot(int version) {
        tape.count = 0;
        tape.appendInt(version);
        tape.appendLong(story.blockOf(version));
        tape.append(story.filledSlots());
        for (int slot = 0; slot < SLOTS; slot++) {
            Page held = story.slots[slot] == 0 ? null : disk.pageOf(story.slots[slot]);
            if (held != null) {
                tape.append(slot);
                for (int i = 0; i <= held.size(); i++) {
                    tape.append(held.bytes[i]);
                }
            }
        }
        tape.appendLong(Bytes.sum(tape.bytes, 0, tape.count, BY_SNAPSHOT));
    }

    /** How many pages the snapshot's leaves need: none for those that are there, one for those that are alike. */
    private int newLeaves() {
        int count = 0;
        for (int i = 0; i < snapshot.count; i++) {
            drawPage(snapshot.starts[i], snapshot.sizes[i]);
            if (disk.sameLeaf(pageImage) == NONE && !snapshot.hasAhead(i, tape)) {
                count++;
            }
        }
        return count;
    }

    private boolean putSnapshot() {
        for (int i = 0; i < snapshot.count; i++) {
            drawPage(snapshot.starts[i], snapshot.sizes[i]);
            snapshot.digests[i] = Bytes.longAt(pageImage, PAGE_BODY);
            if (putLeaf() < 0) {
                return false;
            }
        }
        if (!rows.write(BASE, snapshot.height, snapshot.count, snapshot.block)) {
            return false;
        }
        for (int i = 0; i < snapshot.count; i++) {
            if (!rows.write(CHANGE, snapshot.slots[i], 0, snapshot.digests[i])) {
                return false;
            }
        }
        story.hear();
        return true;
    }

    private boolean isAsked(int what) {
        if (what < 0) {
            return false;
        }
        if (what < AREA_ROWS) {
            return what < rows.count && rows.state(what) == BAD;
        }
        Page held = disk.find(what - AREA_ROWS);
        return held != null && held.state() == BAD;
    }

    private boolean drawMendedPage(int number) {
        int n = tape.count;
        Page held = disk.find(number);
        if (n < 1 || n > LEAF_BYTES || held == null) {
            return false;
        }
        drawPage(0, n);
        return Bytes.mends(pageImage, held.bytes, 0, PAGE_BODY);
    }

    /** Numbers with the highest byte first, THE SUM, and what rows and pages have in common. */
    private static final class Bytes {
        private static final long FACTOR = 0xC2B2AE3D27D4EB4FL;

        static long start(int number) {
            return 1000003L * number;
        }

        static long add(long s, int b) {
            long mixed = s ^ (b & 0xFF);
            return ((mixed << 21) | (mixed >>> 43)) * FACTOR;
        }

        static long addInt(long s, int value) {
            long sum = s;
            for (int shift = 24; shift >= 0; shift -= 8) {
                sum = add(sum, value >>> shift);
            }
            return sum;
        }

        static long addLong(long s, long value) {
            long sum = s;
            for (int shift = 56; shift >= 0; shift -= 8) {
                sum = add(sum, (int) (value >>> shift));
            }
            return sum;
        }

        static long sum(byte[] bytes, int from, int n, int number) {
            long s = start(number);
            for (int i = from; i < from + n; i++) {
                s = add(s, bytes[i]);
            }
            return s;
        }

        static int intAt(byte[] bytes, int from) {
            int value = 0;
            for (int i = from; i < from + 4; i++) {
                value = (value << 8) | (bytes[i] & 0xFF);
            }
            return value;
        }

        static long longAt(byte[] bytes, int from) {
            long value = 0;
            for (int i = from; i < from + 8; i++) {
                value = (value << 8) | (bytes[i] & 0xFF);
            }
            return value;
        }

        static void putInt(byte[] bytes, int from, int value) {
            for (int i = 0; i < 4; i++) {
                bytes[from + i] = (byte) (value >>> (24 - 8 * i));
            }
        }

        static void putLong(byte[] bytes, int from, long value) {
            for (int i = 0; i < 8; i++) {
                bytes[from + i] = (byte) (value >>> (56 - 8 * i));
            }
        }

        static boolean isZero(byte[] bytes, int from, int n) {
            for (int i = from; i < from + n; i++) {
                if (bytes[i] != 0) {
                    return false;
                }
            }
            return true;
        }

        static boolean isSame(byte[] image, byte[] bytes, int from, int n) {
            for (int i = 0; i < n; i++) {
                if (image[i] != bytes[from + i]) {
                    return false;
                }
            }
            return true;
        }

        /** Puts the SUM behind the body of a row or page, and 165 behind that. */
        static void close(byte[] image, int body, int number) {
            putLong(image, body, sum(image, 0, body, number));
            image[body + SUM_BYTES] = (byte) SEAL;
        }

        /** The state of a row or page by its SUM (the form of a leaf is not looked at). */
        static int judge(byte[] bytes, int from, int body, int number) {
            int last = bytes[from + body + SUM_BYTES] & 0xFF;
            if (isZero(bytes, from, body + SUM_BYTES)) {
                return last == 0 ? FREE : TORN;
            }
            long sum = longAt(bytes, from + body);
            if ((sum != 0 || last == SEAL) && sum == sum(bytes, from, body, number)) {
                return RIGHT;
            }
            return last == 0 ? TORN : BAD;
        }

        /** Whether an image (with its SUM) is what a BAD row or page was. */
        static boolean mends(byte[] image, byte[] bytes, int from, int body) {
            int unlike = 0;
            for (int i = body; i < body + SUM_BYTES; i++) {
                if (image[i] != bytes[from + i]) {
                    unlike++;
                }
            }
            return unlike == 0 || unlike == 1 && isSame(image, bytes, from, body);
        }
    }

    /** The bytes that were fed. When it is emptied they still stand there, until others come. */
    private static final class Tape {
        private final byte[] bytes;
        private int count;

        Tape() {
            bytes = new byte[TAPE_BYTES];
            count = 0;
        }

        void append(int b) {
            if (count < TAPE_BYTES) {
                bytes[count] = (byte) b;
                count++;
            }
        }

        void appendInt(int value) {
            for (int shift = 24; shift >= 0; shift -= 8) {
                append(value >>> shift);
            }
        }

        void appendLong(long value) {
            appendInt((int) (value >>> 32));
            appendInt((int) value);
        }
    }

    /** A page that has been written or poked at some time. */
    private static final class Page {
        private final int number;
        private final byte[] bytes;
        private int known;

        Page(int number) {
            this.number = number;
            bytes = new byte[PAGE_BYTES];
            known = FREE;
        }

        int size() {
            return bytes[0];
        }

        long sum() {
            return Bytes.longAt(bytes, PAGE_BODY);
        }

        int state() {
            if (known == UNSEEN) {
                known = Bytes.judge(bytes, 0, PAGE_BODY, BY_PAGE);
                if (known == RIGHT && !hasForm()) {
                    known = bytes[PAGE_BYTES - 1] == 0 ? TORN : BAD;
                }
            }
            return known;
        }

        private boolean hasForm() {
            int n = size();
            return n >= 1 && n <= LEAF_BYTES && Bytes.isZero(bytes, 1 + n, LEAF_BYTES - n);
        }
    }

    /** The bytes, the acts that change them, and the power. Pages that were never touched are not held: they are FREE. */
    private static final class Disk {
        private final int pageCount;
        private final byte[] low;
        private final byte[] rowStates;
        private final ArrayList<Page> touched;
        private boolean powered;
        private int actsLeft;
        private int actsDone;

        Disk(int pageCount) {
            this.pageCount = pageCount;
            low = new byte[FIRST_PAGE];
            rowStates = new byte[2 * AREA_ROWS];
            touched = new ArrayList<>();
            powered = true;
            actsLeft = NONE;
            actsDone = 0;
        }

        int read(int place) {
            if (place < FIRST_PAGE) {
                return low[place] & 0xFF;
            }
            Page held = find((place - FIRST_PAGE) / PAGE_BYTES);
            return held == null ? 0 : held.bytes[(place - FIRST_PAGE) % PAGE_BYTES] & 0xFF;
        }

        void set(int place, int value) {
            if (place < FIRST_PAGE) {
                setLow(place, value);
                return;
            }
            Page held = touch((place - FIRST_PAGE) / PAGE_BYTES);
            held.bytes[(place - FIRST_PAGE) % PAGE_BYTES] = (byte) value;
            held.known = UNSEEN;
        }

        void setLow(int place, int value) {
            low[place] = (byte) value;
            if (place >= FIRST_ROW) {
                rowStates[(place - FIRST_ROW) / ROW_BYTES] = UNSEEN;
            }
        }

        /** Whether one act more may be done; if not, the power has gone. */
        boolean act() {
            if (!powered) {
                return false;
            }
            if (actsLeft == 0) {
                powered = false;
                actsLeft = NONE;
                return false;
            }
            if (actsLeft > 0) {
                actsLeft--;
            }
            actsDone++;
            return true;
        }

        boolean writeLow(int place, byte[] image, int n) {
            for (int i = 0; i < n; i++) {
                if (!act()) {
                    return false;
                }
                setLow(place + i, image[i]);
            }
            return true;
        }

        boolean writePage(int number, byte[] image) {
            for (int i = 0; i < PAGE_BYTES; i++) {
                if (!act()) {
                    return false;
                }
                Page held = touch(number);
                held.bytes[i] = image[i];
                held.known = UNSEEN;
            }
            return true;
        }

        boolean sealLow(int place) {
            if (!act()) {
                return false;
            }
            setLow(place, SEAL);
            return true;
        }

        boolean eraseHead(int head) {
            if (!act()) {
                return false;
            }
            for (int i = 0; i < HEAD_BYTES; i++) {
                low[HEAD_BYTES * head + i] = 0;
            }
            return true;
        }

        /** One act, whether it is a row or a whole area. */
        boolean eraseRows(int area, int first, int n) {
            if (!act()) {
                return false;
            }
            int index = AREA_ROWS * area + first;
            int from = FIRST_ROW + ROW_BYTES * index;
            for (int i = 0; i < ROW_BYTES * n; i++) {
                low[from + i] = 0;
            }
            for (int i = 0; i < n; i++) {
                rowStates[index + i] = FREE;
            }
            return true;
        }

        boolean erasePage(Page held) {
            if (!act()) {
                return false;
            }
            for (int i = 0; i < PAGE_BYTES; i++) {
                held.bytes[i] = 0;
            }
            held.known = FREE;
            return true;
        }

        int rowState(int area, int row) {
            int index = AREA_ROWS * area + row;
            if (rowStates[index] == UNSEEN) {
                rowStates[index] = (byte) Bytes.judge(low, FIRST_ROW + ROW_BYTES * index, ROW_BODY, BY_ROW);
            }
            return rowStates[index];
        }

        /** Where a page stands among the touched ones, or would stand. */
        private int position(int number) {
            int from = 0;
            int to = touched.size();
            for (int step = 0; step < 32 && from < to; step++) {
                int middle = (from + to) >>> 1;
                if (touched.get(middle).number < number) {
                    from = middle + 1;
                } else {
                    to = middle;
                }
            }
            return from;
        }

        Page find(int number) {
            int i = position(number);
            return i < touched.size() && touched.get(i).number == number ? touched.get(i) : null;
        }

        private Page touch(int number) {
            int i = position(number);
            if (i < touched.size() && touched.get(i).number == number) {
                return touched.get(i);
            }
            Page fresh = new Page(number);
            touched.add(i, fresh);
            return fresh;
        }

        Page rightPage(int number) {
            Page held = find(number);
            return held != null && held.state() == RIGHT ? held : null;
        }

        Page pageOf(long digest) {
            for (int i = 0; i < touched.size(); i++) {
                Page held = touched.get(i);
                if (held.state() == RIGHT && held.sum() == digest) {
                    return held;
                }
            }
            return null;
        }

        int sameLeaf(byte[] image) {
            for (int i = 0; i < touched.size(); i++) {
                Page held = touched.get(i);
                if (held.state() == RIGHT && Bytes.isSame(image, held.bytes, 0, PAGE_BODY)) {
                    return held.number;
                }
            }
            return NONE;
        }

        int firstFree() {
            int next = 0;
            for (int i = 0; i < touched.size(); i++) {
                Page held = touched.get(i);
                if (held.number != next || held.state() == FREE) {
                    return next;
                }
                next++;
            }
            return next < pageCount ? next : NONE;
        }

        private int countPages(int state) {
            int count = 0;
            for (int i = 0; i < touched.size(); i++) {
                if (touched.get(i).state() == state) {
                    count++;
                }
            }
            return count;
        }

        int freePages() {
            return pageCount - touched.size() + countPages(FREE);
        }

        int badPages() {
            return countPages(BAD);
        }

        Page badPage(int k) {
            int ahead = 0;
            for (int i = 0; i < touched.size(); i++) {
                Page held = touched.get(i);
                if (held.state() == BAD) {
                    if (ahead == k) {
                        return held;
                    }
                    ahead++;
                }
            }
            return null;
        }

        boolean eraseTornPages() {
            for (int i = 0; i < touched.size(); i++) {
                Page held = touched.get(i);
                if (held.state() == TORN && !erasePage(held)) {
                    return false;
                }
            }
            return true;
        }

        boolean sealPages() {
            for (int i = 0; i < touched.size(); i++) {
                Page held = touched.get(i);
                if (held.state() == RIGHT && (held.bytes[PAGE_BYTES - 1] & 0xFF) != SEAL) {
                    if (!act()) {
                        return false;
                    }
                    held.bytes[PAGE_BYTES - 1] = (byte) SEAL;
                }
            }
            return true;
        }
    }

    /** The rows of the area in use, as bytes: reading and writing them, OPEN and MEND. */
    private static final class Rows {
        private final Disk disk;
        private final byte[] image;
        private int area;
        private int generation;
        private int count;
        private int bad;

        Rows(Disk disk) {
            this.disk = disk;
            image = new byte[ROW_BYTES];
            area = 0;
            generation = 1;
            count = 0;
            bad = 0;
            drawHead(generation);
            System.arraycopy(image, 0, disk.low, 0, HEAD_BYTES);
        }

        private int place(int row) {
            return FIRST_ROW + AREA_BYTES * area + ROW_BYTES * row;
        }

        int kind(int row) {
            return disk.low[place(row)] & 0xFF;
        }

        int a(int row) {
            return Bytes.intAt(disk.low, place(row) + A_AT);
        }

        int b(int row) {
            return Bytes.intAt(disk.low, place(row) + B_AT);
        }

        long c(int row) {
            return Bytes.longAt(disk.low, place(row) + C_AT);
        }

        int state(int row) {
            return disk.rowState(area, row);
        }

        boolean inNeed() {
            return bad > 0;
        }

        void draw(int kind, int a, int b, long c) {
            for (int i = 0; i < ROW_BODY; i++) {
                image[i] = 0;
            }
            image[0] = (byte) kind;
            Bytes.putInt(image, A_AT, a);
            Bytes.putInt(image, B_AT, b);
            Bytes.putLong(image, C_AT, c);
            Bytes.close(image, ROW_BODY, BY_ROW);
        }

        void drawHead(int number) {
            Bytes.putInt(image, 0, number);
            Bytes.putInt(image, 4, SEAL);
            Bytes.putLong(image, HEAD_BODY, Bytes.sum(image, 0, HEAD_BODY, BY_HEAD));
        }

        void drawCopy(int row) {
            System.arraycopy(disk.low, place(row), image, 0, ROW_BYTES);
            image[ROW_BYTES - 1] = (byte) SEAL;
        }

        boolean writeImage(int inArea, int row) {
            return disk.writeLow(FIRST_ROW + AREA_BYTES * inArea + ROW_BYTES * row, image, ROW_BYTES);
        }

        /** Writes a row behind the others. The caller has looked whether there is a place. */
        boolean write(int kind, int a, int b, long c) {
            draw(kind, a, b, c);
            if (count >= AREA_ROWS || !writeImage(area, count)) {
                return false;
            }
            count++;
            return true;
        }

        private boolean isHead(int head) {
            int from = HEAD_BYTES * head;
            long sum = Bytes.longAt(disk.low, from + HEAD_BODY);
            return Bytes.intAt(disk.low, from + 4) == SEAL && sum != 0
                && sum == Bytes.sum(disk.low, from, HEAD_BODY, BY_HEAD);
        }

        private long generationOf(int head) {
            return Bytes.intAt(disk.low, HEAD_BYTES * head) & 0xFFFFFFFFL;
        }

        /** Takes the area of the newer right head into use; whether there is one. */
        boolean choose() {
            boolean first = isHead(0);
            boolean second = isHead(1);
            if (!first && !second) {
                return false;
            }
            area = second && (!first || generationOf(1) >= generationOf(0)) ? 1 : 0;
            generation = (int) generationOf(area);
            return true;
        }

        /** Erases the other head, finds the rows, and erases the torn one behind them. */
        boolean clear() {
            int other = 1 - area;
            if (!Bytes.isZero(disk.low, HEAD_BYTES * other, HEAD_BYTES) && !disk.eraseHead(other)) {
                return false;
            }
            bad = 0;
            for (count = 0; count < AREA_ROWS; count++) {
                int state = state(count);
                if (state == TORN) {
                    return disk.eraseRows(area, count, 1);
                }
                if (state == FREE) {
                    return true;
                }
                if (state == BAD) {
                    bad++;
                }
            }
            return true;
        }

        private int countBad() {
            int found = 0;
            for (int row = 0; row < count; row++) {
                if (state(row) == BAD) {
                    found++;
                }
            }
            return found;
        }

        int badRow(int k) {
            int ahead = 0;
            for (int row = 0; row < count; row++) {
                if (state(row) == BAD) {
                    if (ahead == k) {
                        return row;
                    }
                    ahead++;
                }
            }
            return NONE;
        }

        /** Erases the last BLOCK or BASE, when there are fewer rows behind it than it tells. */
        boolean dropLacking() {
            int row = count - 1;
            while (row >= 0 && kind(row) != BLOCK && kind(row) != BASE) {
                row--;
            }
            if (row < 0) {
                return true;
            }
            int changes = b(row);
            if (changes < 0 || changes > MOST_CHANGES || count - 1 - row >= changes) {
                return true;
            }
            for (int i = count - 1; i >= row; i--) {
                if (!disk.eraseRows(area, i, 1)) {
                    return false;
                }
            }
            count = row;
            return true;
        }

        boolean seal() {
            for (int row = 0; row < count; row++) {
                int last = place(row) + ROW_BYTES - 1;
                boolean unsealed = state(row) == RIGHT && (disk.low[last] & 0xFF) != SEAL;
                if (unsealed && !disk.sealLow(last)) {
                    return false;
                }
            }
            return true;
        }

        /** Makes the image of a BAD row from the tape; whether it is right. */
        boolean drawMended(int row, Tape tape) {
            if (tape.count != ROW_BODY) {
                return false;
            }
            System.arraycopy(tape.bytes, 0, image, 0, ROW_BODY);
            Bytes.close(image, ROW_BODY, BY_ROW);
            return Bytes.mends(image, disk.low, place(row), ROW_BODY);
        }

        boolean rewrite(int row) {
            if (!writeImage(area, row)) {
                return false;
            }
            bad = countBad();
            return inNeed() || dropLacking();
        }
    }

    /** What the rows say. In NEED nothing is known, and all is as if there were no rows. */
    private static final class Story {
        private final Rows rows;
        private final long[] digests;
        private final boolean[] isBlock;
        private final boolean[] inBlock;
        private final boolean[] fits;
        private final int[] chain;
        private final long[] slots;
        private int heard;
        private int certified;
        private int lastVote;
        private boolean based;
        private int baseHeight;

        Story(Rows rows) {
            this.rows = rows;
            digests = new long[AREA_ROWS];
            isBlock = new boolean[AREA_ROWS];
            inBlock = new boolean[AREA_ROWS];
            fits = new boolean[AREA_ROWS];
            chain = new int[AREA_ROWS];
            slots = new long[SLOTS];
            heard = 0;
            certified = 0;
            lastVote = NONE;
            based = false;
            baseHeight = 0;
        }

        void hearAnew() {
            heard = 0;
            certified = 0;
            lastVote = NONE;
            based = false;
            baseHeight = 0;
            if (!rows.inNeed()) {
                hear();
            }
        }

        /** Takes in the rows that came since: no row changes what rows ahead of it say, as GROUPS are heard whole. */
        void hear() {
            for (int row = heard; row < rows.count; row++) {
                digests[row] = 0;
                isBlock[row] = false;
                inBlock[row] = false;
                fits[row] = false;
            }
            int first = heard;
            heard = rows.count;
            for (int row = first; row < heard; row++) {
                switch (rows.kind(row)) {
                    case VOTE:
                        lastVote = row;
                        break;
                    case BLOCK:
                        hearBlock(row);
                        break;
                    case CERTIFICATE:
                        hearCertificate(row);
                        break;
                    case BASE:
                        hearBase(row);
                        break;
                    default:
                        break;
                }
            }
        }

        private void hearBase(int row) {
            if (row == 0 && isWhole(row) && rows.c(row) != 0) {
                digests[row] = rows.c(row);
                based = true;
                baseHeight = rows.a(row);
            }
        }

        private void hearBlock(int row) {
            long digest = isWhole(row) ? sumOfBlock(row) : 0;
            if (digest == 0) {
                return;
            }
            isBlock[row] = blockRow(digest) == NONE && !(based && digest == digests[0]);
            digests[row] = digest;
            int last = row + rows.b(row);
            for (int i = row + 1; i <= last; i++) {
                inBlock[i] = true;
            }
        }

        private void hearCertificate(int row) {
            int block = blockRow(rows.c(row));
            if (block != NONE && isNext(block) && certified < AREA_ROWS) {
                fits[row] = true;
                chain[certified] = block;
                certified++;
            }
        }

        /** Whether a BLOCK or BASE has a height, and behind it the CHANGES that it tells. */
        private boolean isWhole(int row) {
            int changes = rows.b(row);
            if (!isHeight(rows.a(row)) || changes < 0 || changes > MOST_CHANGES || row + changes >= heard) {
                return false;
            }
            for (int i = row + 1; i <= row + changes; i++) {
                int slot = rows.a(i);
                if (rows.kind(i) != CHANGE || slot < 0 || slot >= SLOTS) {
                    return false;
                }
            }
            return true;
        }

        private long sumOfBlock(int row) {
            long s = Bytes.addLong(Bytes.addInt(Bytes.start(BY_BLOCK), rows.a(row)), rows.c(row));
            int last = row + rows.b(row);
            for (int i = row + 1; i <= last; i++) {
                s = Bytes.addLong(Bytes.addInt(s, rows.a(i)), rows.c(i));
            }
            return s;
        }

        /** The row of a block that is there (BASE's block is not), or NONE. */
        int blockRow(long digest) {
            if (digest == 0) {
                return NONE;
            }
            for (int row = 0; row < heard; row++) {
                if (isBlock[row] && digests[row] == digest) {
                    return row;
                }
            }
            return NONE;
        }

        long digestAt(int row) {
            return row < 0 || row >= heard ? 0 : digests[row];
        }

        /** The digest that a caller means: -1 .. -128 stand for that of a row's block. */
        long meant(long digest) {
            return digest < 0 && digest >= -AREA_ROWS ? digestAt((int) (-1 - digest)) : digest;
        }

        /** NONE when no block can have this parent. */
        int heightOfParent(long digest) {
            if (digest == (based ? digests[0] : 0)) {
                return baseHeight;
            }
            int row = blockRow(digest);
            return row == NONE ? NONE : rows.a(row);
        }

        int lastVersion() {
            return baseHeight + certified;
        }

        boolean isKept(int version) {
            return !rows.inNeed() && version >= baseHeight && version <= lastVersion();
        }

        /** The digest of a kept version's block; 0 for version 0. */
        long blockOf(int version) {
            int k = version - baseHeight - 1;
            if (k >= 0 && k < certified) {
                return digests[chain[k]];
            }
            return based ? digests[0] : 0;
        }

        boolean isNext(int block) {
            return rows.a(block) == lastVersion() + 1 && rows.c(block) == blockOf(lastVersion());
        }

        boolean isCertified(int block) {
            for (int k = 0; k < certified; k++) {
                if (chain[k] == block) {
                    return true;
                }
            }
            return false;
        }

        /** Makes the slots those of a kept version. */
        void drawVersion(int version) {
            for (int slot = 0; slot < SLOTS; slot++) {
                slots[slot] = 0;
            }
            if (based) {
                drawChanges(0);
            }
            for (int k = 0; k < certified && k < version - baseHeight; k++) {
                drawChanges(chain[k]);
            }
        }

        private void drawChanges(int row) {
            int last = row + rows.b(row);
            for (int i = row + 1; i <= last && i < heard; i++) {
                int slot = rows.a(i);
                if (slot >= 0 && slot < SLOTS) {
                    slots[slot] = rows.c(i);
                }
            }
        }

        int filledSlots() {
            int filled = 0;
            for (int slot = 0; slot < SLOTS; slot++) {
                if (slots[slot] != 0) {
                    filled++;
                }
            }
            return filled;
        }

        /** Later versions have leaves of the first kept one, or of blocks: these two are all that is to be looked at. */
        boolean names(long leaf) {
            if (leaf == 0) {
                return false;
            }
            for (int row = 0; row < heard; row++) {
                if (inBlock[row] && rows.c(row) == leaf) {
                    return true;
                }
            }
            drawVersion(baseHeight);
            for (int slot = 0; slot < SLOTS; slot++) {
                if (slots[slot] == leaf) {
                    return true;
                }
            }
            return false;
        }
    }

    /** PRUNE, up to the other area's being in use. */
    private static final class Pruning {
        private final Disk disk;
        private final Rows rows;
        private final Story story;
        private final boolean[] keeps;

        Pruning(Disk disk, Rows rows, Story story) {
            this.disk = disk;
            this.rows = rows;
            this.story = story;
            keeps = new boolean[AREA_ROWS];
        }

        /** Draws the version of a height and marks the rows that stay: how many rows there will be. */
        int mark(int height) {
            story.drawVersion(height);
            for (int row = 0; row < rows.count; row++) {
                keeps[row] = row == story.lastVote || story.fits[row] && isAbove(row, height);
            }
            markBlocks(height, story.blockOf(height));
            int will = 1 + story.filledSlots();
            for (int row = 0; row < rows.count; row++) {
                if (keeps[row]) {
                    will++;
                }
            }
            return will;
        }

        private boolean isAbove(int certificate, int height) {
            int block = story.blockRow(rows.c(certificate));
            return block != NONE && rows.a(block) > height;
        }

        /** A parent may stand behind its child (where old rows came to light again): one pass is not always enough. */
        private void markBlocks(int height, long root) {
            boolean more = true;
            for (int pass = 0; more && pass < AREA_ROWS; pass++) {
                more = false;
                for (int row = 0; row < rows.count; row++) {
                    if (story.isBlock[row] && !keeps[row] && rows.a(row) > height && hasKeptParent(row, root)) {
                        markGroup(row);
                        more = true;
                    }
                }
            }
        }

        private boolean hasKeptParent(int row, long root) {
            long digest = rows.c(row);
            int parent = story.blockRow(digest);
            return digest == root || parent != NONE && keeps[parent];
        }

        private void markGroup(int row) {
            int last = row + rows.b(row);
            for (int i = row; i <= last && i < AREA_ROWS; i++) {
                keeps[i] = true;
            }
        }

        /** Writes what mark() has drawn and marked into the other area, and takes that into use. */
        boolean move(int height) {
            int other = 1 - rows.area;
            if (!disk.eraseRows(other, 0, AREA_ROWS)) {
                return false;
            }
            int ahead = writeVersion(height, other);
            int count = ahead == OFF ? OFF : copyKept(ahead, other);
            if (count == OFF) {
                return false;
            }
            int generation = rows.generation + 1;
            rows.drawHead(generation);
            if (!disk.writeLow(HEAD_BYTES * other, rows.image, HEAD_BYTES)) {
                return false;
            }
            rows.area = other;
            rows.generation = generation;
            rows.count = count;
            return true;
        }

        /** How many rows are in the other area then, or OFF. */
        private int writeVersion(int height, int other) {
            rows.draw(BASE, height, story.filledSlots(), story.blockOf(height));
            if (!rows.writeImage(other, 0)) {
                return OFF;
            }
            int count = 1;
            for (int slot = 0; slot < SLOTS; slot++) {
                if (story.slots[slot] != 0) {
                    rows.draw(CHANGE, slot, 0, story.slots[slot]);
                    if (!rows.writeImage(other, count)) {
                        return OFF;
                    }
                    count++;
                }
            }
            return count;
        }

        private int copyKept(int ahead, int other) {
            int count = ahead;
            for (int row = 0; row < rows.count; row++) {
                if (keeps[row]) {
                    rows.drawCopy(row);
                    if (!rows.writeImage(other, count)) {
                        return OFF;
                    }
                    count++;
                }
            }
            return count;
        }
    }

    /** What a SNAPSHOT on the tape tells. */
    private static final class Snapshot {
        private final int[] slots;
        private final int[] starts;
        private final int[] sizes;
        private final long[] digests;
        private int height;
        private long block;
        private int count;

        Snapshot() {
            slots = new int[SLOTS];
            starts = new int[SLOTS];
            sizes = new int[SLOTS];
            digests = new long[SLOTS];
            height = 0;
            block = 0;
            count = 0;
        }

        /** Whether the tape is a SNAPSHOT. */
        boolean read(Tape tape) {
            int end = tape.count - SUM_BYTES;
            if (end < SNAPSHOT_HEAD) {
                return false;
            }
            height = Bytes.intAt(tape.bytes, 0);
            block = Bytes.longAt(tape.bytes, 4);
            count = tape.bytes[SNAPSHOT_HEAD - 1] & 0xFF;
            return isHeight(height) && block != 0 && count <= SLOTS && readLeaves(tape, end)
                && Bytes.longAt(tape.bytes, end) == Bytes.sum(tape.bytes, 0, end, BY_SNAPSHOT);
        }

        private boolean readLeaves(Tape tape, int end) {
            int place = SNAPSHOT_HEAD;
            int least = 0;
            for (int i = 0; i < count; i++) {
                if (place + 2 > end) {
                    return false;
                }
                slots[i] = tape.bytes[place] & 0xFF;
                sizes[i] = tape.bytes[place + 1] & 0xFF;
                starts[i] = place + 2;
                place += 2 + sizes[i];
                if (slots[i] < least || slots[i] >= SLOTS || sizes[i] < 1 || sizes[i] > LEAF_BYTES || place > end) {
                    return false;
                }
                least = slots[i] + 1;
            }
            return place == end;
        }

        /** Whether a leaf ahead has the same bytes. */
        boolean hasAhead(int index, Tape tape) {
            for (int i = 0; i < index; i++) {
                if (sizes[i] == sizes[index] && isSameLeaf(i, index, tape)) {
                    return true;
                }
            }
            return false;
        }

        private boolean isSameLeaf(int one, int other, Tape tape) {
            for (int i = 0; i < sizes[one]; i++) {
                if (tape.bytes[starts[one] + i] != tape.bytes[starts[other] + i]) {
                    return false;
                }
            }
            return true;
        }
    }
}
