import java.util.List;

/**
 * "Of a call that throws, or is refused (below 0), nothing changes": each way in which each call is refused, with all that
 * can be seen of the log ahead of it and behind it. And the order in which the reasons count, two at a time.
 */
public final class RefusedCallsTest {
    private static final int NONE = -1, FULL = -2, NEED = -3, LOST = -5, UNKNOWN = -6, LATE = -7, WEAK = -8, OTHER = -9, WRONG = -10;
    private static final Class<? extends RuntimeException> BOUNDS = IndexOutOfBoundsException.class;
    private static final Class<? extends RuntimeException> STATE = IllegalStateException.class;
    private static final Class<? extends RuntimeException> ARGUMENT = IllegalArgumentException.class;

    private interface Call {
        long run();
    }

    public static void main(String[] args) {
        tape();
        leaves();
        changes();
        blocks();
        votes();
        certificates();
        questions();
        prunes();
        outs();
        ins();
        power();
        disk();
        mends();
        Due.end();
    }

    /** A call that throws this. */
    private static void refused(String words, BlockLog x, Class<? extends RuntimeException> want, Call call) {
        Due.sentence(words, () -> {
            List<String> before = Shot.of(x);
            if (want == BOUNDS) {
                Due.bounds("the call", call::run);
            } else if (want == STATE) {
                Due.state("the call", call::run);
            } else {
                Due.argument("the call", call::run);
            }
            Due.same("nothing changes", before, Shot.of(x));
        });
    }

    /** A call that answers this, which is below 0. */
    private static void refused(String words, BlockLog x, int want, Call call) {
        Due.sentence(words, () -> {
            List<String> before = Shot.of(x);
            Due.is("the call", want, call.run());
            Due.same("nothing changes", before, Shot.of(x));
        });
    }

    // ---- logs to be refused by

    /**
     * Five pages, the last one FREE, page 2 BAD. Rows: 0, 1 block a (certified by 2), 3 a vote of round 5 for a, 4, 5 block b
     * above a, 6 block c of height 1, 7 block d above c. Two changes are collected, the tape has two bytes.
     */
    private static BlockLog busy() {
        BlockLog x = new BlockLog(5);
        for (int i = 1; i <= 4; i++) {
            Lab.leaf(x, i, i);
        }
        x.change(0, 0);
        x.block(1, 0);
        x.certify(-1, 7);
        x.vote(1, 5, -1);
        x.change(1, 1);
        x.block(2, -1);
        x.block(1, 0);
        x.block(2, -7);
        Lab.damage(x, Lab.page(2) + 1, 1);
        return collecting(x);
    }

    private static BlockLog collecting(BlockLog x) {
        x.change(3, 0);
        x.change(4, NONE);
        Lab.feed(x, 200, 201);
        return x;
    }

    /** The same in NEED: the vote's row is BAD. */
    private static BlockLog needing() {
        BlockLog x = busy();
        Lab.damage(x, Lab.row(0, 3) + 4, 1);
        return collecting(x);
    }

    /** The same without power. */
    private static BlockLog dark() {
        BlockLog x = busy();
        x.off();
        return x;
    }

    /** The same with 128 rows. */
    private static BlockLog crowded() {
        BlockLog x = busy();
        for (int round = 6; x.told(4) < 128; round++) {
            x.vote(1, round, -1);
        }
        return x;
    }

    /** Two pages with a leaf, no more. */
    private static BlockLog paged() {
        BlockLog x = new BlockLog(2);
        Lab.leaf(x, 1);
        Lab.leaf(x, 2);
        return x;
    }

    // ---- the calls

    private static void tape() {
        BlockLog x = busy();
        for (int n : new int[] {0, 9, -1, Integer.MAX_VALUE, Integer.MIN_VALUE}) {
            refused("feed: n is not 1 .. 8, but " + n, x, ARGUMENT, () -> x.feed(-1, n));
        }
        BlockLog y = busy();
        y.wipe();
        for (int i = 0; i < 49; i++) {
            y.feed(i, 8);
        }
        y.feed(1, 1);
        refused("feed: there would be 401", y, ARGUMENT, () -> y.feed(-1, 8));
        y.feed(-1, 7);
        refused("feed: there are 400", y, ARGUMENT, () -> y.feed(-1, 1));
        for (int i : new int[] {-1, 2, Integer.MAX_VALUE, Integer.MIN_VALUE}) {
            refused("at: no byte " + i, x, BOUNDS, () -> x.at(i));
        }
        BlockLog z = busy();
        z.wipe();
        refused("at: the tape is empty", z, BOUNDS, () -> z.at(0));
    }

    private static void leaves() {
        BlockLog x = busy();
        x.wipe();
        refused("leaf: the tape is empty", x, ARGUMENT, x::leaf);
        BlockLog y = busy();
        Lab.feed(y, new int[17]);
        refused("leaf: the tape has 17 bytes", y, ARGUMENT, y::leaf);
        BlockLog off = dark();
        refused("leaf: off", off, STATE, off::leaf);
        off.wipe();
        refused("leaf: off ahead of an empty tape", off, STATE, off::leaf);
        BlockLog need = needing();
        refused("leaf: NEED", need, NEED, need::leaf);
        need.wipe();
        refused("leaf: an empty tape ahead of NEED", need, ARGUMENT, need::leaf);
        BlockLog same = needing();
        Lab.feed(same, 1, 1);
        refused("leaf: NEED, though there is one of the same bytes", same, NEED, same::leaf);
        BlockLog full = paged();
        Lab.feed(full, 3);
        refused("leaf: FULL", full, FULL, full::leaf);
        full.block(1, 0);
        Lab.damage(full, 32 + 4, 1);
        refused("leaf: NEED ahead of FULL", full, NEED, full::leaf);
        BlockLog bad = paged();
        Lab.damage(bad, Lab.page(0) + 1, 4);
        Lab.feed(bad, 1);
        refused("leaf: FULL, as a BAD page is neither the same nor FREE", bad, FULL, bad::leaf);
    }

    private static void changes() {
        BlockLog x = busy();
        for (int slot : new int[] {-1, 16, Integer.MAX_VALUE, Integer.MIN_VALUE}) {
            refused("change: slot is not 0 .. 15, but " + slot, x, ARGUMENT, () -> x.change(slot, 0));
            refused("change: slot " + slot + " to none", x, ARGUMENT, () -> x.change(slot, NONE));
        }
        for (int page : new int[] {-2, 5, 65536, Integer.MAX_VALUE, Integer.MIN_VALUE}) {
            refused("change: page is neither NONE nor one, but " + page, x, ARGUMENT, () -> x.change(0, page));
        }
        refused("change: a FREE page is UNKNOWN", x, UNKNOWN, () -> x.change(0, 4));
        refused("change: a BAD page is UNKNOWN", x, UNKNOWN, () -> x.change(0, 2));
        refused("change: the slot ahead of UNKNOWN", x, ARGUMENT, () -> x.change(16, 4));
        BlockLog off = dark();
        refused("change: off", off, STATE, () -> off.change(0, 0));
        refused("change: off ahead of the slot", off, STATE, () -> off.change(16, 0));
        BlockLog full = busy();
        for (int i = 2; i < 8; i++) {
            full.change(i, 0);
        }
        refused("change: there are 8", full, FULL, () -> full.change(0, 0));
        refused("change: there are 8, to none", full, FULL, () -> full.change(0, NONE));
        refused("change: UNKNOWN ahead of FULL", full, UNKNOWN, () -> full.change(0, 4));
        refused("change: the slot ahead of FULL", full, ARGUMENT, () -> full.change(-1, 0));
        refused("change: the page ahead of FULL", full, ARGUMENT, () -> full.change(0, 5));
    }

    private static void blocks() {
        BlockLog x = busy();
        BlockLog need = needing();
        BlockLog off = dark();
        for (int height : new int[] {0, -1, 1000001, Integer.MAX_VALUE, Integer.MIN_VALUE}) {
            refused("block: height is not 1 .. 1000000, but " + height, x, ARGUMENT, () -> x.block(height, 0));
            refused("block: height " + height + " ahead of NEED", need, ARGUMENT, () -> need.block(height, 0));
            refused("block: off ahead of height " + height, off, STATE, () -> off.block(height, 0));
        }
        refused("block: off", off, STATE, () -> off.block(1, 0));
        refused("block: NEED", need, NEED, () -> need.block(1, 0));
        refused("block: NEED ahead of UNKNOWN", need, NEED, () -> need.block(1, 99));
        refused("block: the parent is no block", x, UNKNOWN, () -> x.block(1, 99));
        refused("block: UNKNOWN ahead of WRONG", x, UNKNOWN, () -> x.block(1000000, 99));
        refused("block: the parent is a leaf's digest", x, UNKNOWN, () -> x.block(1, Lab.leafDigest(1, 1)));
        for (int height : new int[] {2, 3, 1000000}) {
            refused("block: WRONG height without a parent: " + height, x, WRONG, () -> x.block(height, 0));
        }
        for (int height : new int[] {1, 3, 1000000}) {
            refused("block: WRONG height above a block: " + height, x, WRONG, () -> x.block(height, -1));
        }
        BlockLog based = busy();
        based.prune(1);
        refused("block: 0 with a BASE", based, UNKNOWN, () -> based.block(1, 0));
        refused("block: WRONG height above BASE", based, WRONG, () -> based.block(1, -1));
        refused("block: WRONG height above BASE", based, WRONG, () -> based.block(3, -1));
        BlockLog full = crowded();
        refused("block: FULL", full, FULL, () -> full.block(1, 0));
        refused("block: WRONG ahead of FULL", full, WRONG, () -> full.block(2, 0));
        refused("block: UNKNOWN ahead of FULL", full, UNKNOWN, () -> full.block(1, 99));
        BlockLog nearly = busy();
        for (int round = 6; nearly.told(4) < 126; round++) {
            nearly.vote(1, round, -1);
        }
        refused("block: a place for two, but not for three", nearly, FULL, () -> nearly.block(1, 0));
    }

    private static void votes() {
        BlockLog x = busy();
        BlockLog need = needing();
        BlockLog off = dark();
        for (int height : new int[] {0, -1, 1000001, Integer.MAX_VALUE, Integer.MIN_VALUE}) {
            refused("vote: height not 1 .. 1000000, but " + height, x, ARGUMENT, () -> x.vote(height, 9, -1));
        }
        for (int round : new int[] {-1, 1000001, Integer.MAX_VALUE, Integer.MIN_VALUE}) {
            refused("vote: round not 0 .. 1000000, but " + round, x, ARGUMENT, () -> x.vote(1, round, -1));
            refused("vote: round " + round + " ahead of NEED", need, ARGUMENT, () -> need.vote(1, round, -1));
            refused("vote: off ahead of round " + round, off, STATE, () -> off.vote(1, round, -1));
        }
        refused("vote: off", off, STATE, () -> off.vote(1, 9, -1));
        refused("vote: NEED", need, NEED, () -> need.vote(1, 9, -1));
        refused("vote: NEED ahead of UNKNOWN", need, NEED, () -> need.vote(1, 9, 99));
        refused("vote: no such block", x, UNKNOWN, () -> x.vote(1, 9, 99));
        refused("vote: none", x, UNKNOWN, () -> x.vote(1, 9, 0));
        refused("vote: a CHANGE", x, UNKNOWN, () -> x.vote(1, 9, -2));
        refused("vote: no such block of that height", x, UNKNOWN, () -> x.vote(2, 9, -1));
        refused("vote: no such block of that height", x, UNKNOWN, () -> x.vote(1, 9, -5));
        refused("vote: UNKNOWN ahead of LATE", x, UNKNOWN, () -> x.vote(1, 1, 99));
        refused("vote: the same height with a lesser round", x, LATE, () -> x.vote(1, 4, -1));
        refused("vote: the same height with the least round", x, LATE, () -> x.vote(1, 0, -1));
        refused("vote: the same round for another block", x, LATE, () -> x.vote(1, 5, -7));
        BlockLog high = busy();
        high.vote(2, 0, -5);
        refused("vote: the latest vote's height is greater", high, LATE, () -> high.vote(1, 1000000, -1));
        refused("vote: an older vote once more", high, LATE, () -> high.vote(1, 5, -1));
        BlockLog full = crowded();
        refused("vote: FULL", full, FULL, () -> full.vote(1, 1000, -1));
        refused("vote: LATE ahead of FULL", full, LATE, () -> full.vote(1, 6, -1));
        refused("vote: UNKNOWN ahead of FULL", full, UNKNOWN, () -> full.vote(2, 1000, -1));
        BlockLog based = busy();
        based.prune(1);
        refused("vote: BASE's block is not there", based, UNKNOWN, () -> based.vote(1, 9, -1));
    }

    private static void certificates() {
        BlockLog x = busy();
        BlockLog need = needing();
        BlockLog off = dark();
        for (int signers : new int[] {-1, 16, 31, Integer.MAX_VALUE, Integer.MIN_VALUE}) {
            refused("certify: signers is not 0 .. 15, but " + signers, x, ARGUMENT, () -> x.certify(-5, signers));
            refused("certify: signers " + signers + " ahead of NEED", need, ARGUMENT, () -> need.certify(-5, signers));
            refused("certify: off ahead of signers " + signers, off, STATE, () -> off.certify(-5, signers));
        }
        refused("certify: off", off, STATE, () -> off.certify(-5, 7));
        refused("certify: NEED", need, NEED, () -> need.certify(-5, 7));
        refused("certify: NEED ahead of UNKNOWN", need, NEED, () -> need.certify(99, 0));
        refused("certify: there is no such block", x, UNKNOWN, () -> x.certify(99, 7));
        refused("certify: none", x, UNKNOWN, () -> x.certify(0, 7));
        refused("certify: UNKNOWN ahead of WEAK", x, UNKNOWN, () -> x.certify(99, 3));
        for (int signers : new int[] {0, 1, 2, 3, 4, 5, 6, 8, 9, 10, 12}) {
            refused("certify: fewer than three signers: " + signers, x, WEAK, () -> x.certify(-5, signers));
        }
        refused("certify: WEAK ahead of OTHER", x, WEAK, () -> x.certify(-7, 3));
        refused("certify: its height is not one above the last version's: the same", x, OTHER, () -> x.certify(-7, 7));
        refused("certify: its parent is not that version's block", x, OTHER, () -> x.certify(-8, 7));
        BlockLog fresh = new BlockLog(1);
        fresh.block(1, 0);
        fresh.block(2, -1);
        fresh.block(3, -2);
        refused("certify: its height is two above the last version's", fresh, OTHER, () -> fresh.certify(-2, 7));
        refused("certify: its height is three above", fresh, OTHER, () -> fresh.certify(-3, 15));
        BlockLog full = crowded();
        refused("certify: FULL", full, FULL, () -> full.certify(-5, 7));
        refused("certify: OTHER ahead of FULL", full, OTHER, () -> full.certify(-7, 7));
        refused("certify: WEAK ahead of FULL", full, WEAK, () -> full.certify(-5, 3));
        refused("certify: UNKNOWN ahead of FULL", full, UNKNOWN, () -> full.certify(99, 7));
        BlockLog based = busy();
        based.prune(1);
        refused("certify: BASE's block is not there", based, UNKNOWN, () -> based.certify(-1, 7));
    }

    private static void questions() {
        BlockLog x = busy();
        BlockLog need = needing();
        BlockLog off = dark();
        for (int row : new int[] {-1, 8, 127, 128, Integer.MAX_VALUE, Integer.MIN_VALUE}) {
            refused("digest: there is no row " + row, x, BOUNDS, () -> x.digest(row));
            refused("sent: there is no row " + row, x, BOUNDS, () -> x.sent(row) ? 1 : 0);
            refused("digest: in NEED there is no row " + row, need, BOUNDS, () -> need.digest(row));
            refused("sent: in NEED there is no row " + row, need, BOUNDS, () -> need.sent(row) ? 1 : 0);
        }
        for (int row : new int[] {0, 8, 127}) {
            refused("digest: off, row " + row, off, STATE, () -> off.digest(row));
            refused("sent: off, row " + row, off, STATE, () -> off.sent(row) ? 1 : 0);
        }
        for (int row : new int[] {-1, 128, Integer.MAX_VALUE, Integer.MIN_VALUE}) {
            refused("digest: no row ahead of off: " + row, off, BOUNDS, () -> off.digest(row));
            refused("sent: no row ahead of off: " + row, off, BOUNDS, () -> off.sent(row) ? 1 : 0);
        }
        for (int what : new int[] {-1, 2, Integer.MAX_VALUE, Integer.MIN_VALUE}) {
            refused("version: another what: " + what, x, ARGUMENT, () -> x.version(what));
            refused("version: off ahead of what " + what, off, STATE, () -> off.version(what));
        }
        refused("version: off", off, STATE, () -> off.version(0));
        for (int slot : new int[] {-1, 16, Integer.MAX_VALUE, Integer.MIN_VALUE}) {
            refused("slot: no such slot: " + slot, x, ARGUMENT, () -> x.slot(1, slot));
            refused("slot: off ahead of slot " + slot, off, STATE, () -> off.slot(1, slot));
        }
        for (int version : new int[] {-1, 2, Integer.MAX_VALUE, Integer.MIN_VALUE}) {
            refused("slot: the version is not kept: " + version, x, ARGUMENT, () -> x.slot(version, 0));
        }
        refused("slot: in NEED no version is kept", need, ARGUMENT, () -> need.slot(0, 0));
        refused("slot: off", off, STATE, () -> off.slot(1, 0));
        refused("page: off", off, STATE, () -> off.page(0));
        refused("asked: off", off, STATE, () -> off.asked(0));
        for (int page : new int[] {-1, 5, Integer.MAX_VALUE, Integer.MIN_VALUE}) {
            refused("byteOf: there is no page " + page, x, BOUNDS, () -> x.byteOf(page, 0));
            refused("named: there is no page " + page, x, BOUNDS, () -> x.named(page) ? 1 : 0);
            refused("byteOf: no page ahead of off: " + page, off, BOUNDS, () -> off.byteOf(page, 0));
            refused("named: no page ahead of off: " + page, off, BOUNDS, () -> off.named(page) ? 1 : 0);
        }
        for (int i : new int[] {-1, 16, Integer.MAX_VALUE, Integer.MIN_VALUE}) {
            refused("byteOf: there is no i " + i, x, BOUNDS, () -> x.byteOf(0, i));
            refused("byteOf: no i ahead of off: " + i, off, BOUNDS, () -> off.byteOf(0, i));
            refused("byteOf: no i, also of a FREE page: " + i, x, BOUNDS, () -> x.byteOf(4, i));
        }
        refused("byteOf: off", off, STATE, () -> off.byteOf(4, 15));
        refused("named: off", off, STATE, () -> off.named(4) ? 1 : 0);
        refused("byteOf: NONE of a FREE page", x, NONE, () -> x.byteOf(4, 0));
        refused("byteOf: NONE of a BAD page", x, NONE, () -> x.byteOf(2, 0));
        refused("byteOf: NONE behind the leaf", x, NONE, () -> x.byteOf(0, 2));
        refused("page: NONE", x, NONE, () -> x.page(99));
        refused("asked: NONE", x, NONE, () -> x.asked(1));
    }

    private static void prunes() {
        BlockLog x = busy();
        BlockLog need = needing();
        BlockLog off = dark();
        for (int height : new int[] {0, -1, 2, Integer.MAX_VALUE, Integer.MIN_VALUE}) {
            refused("prune: the height is not above THE BASE'S, or above the last: " + height, x, ARGUMENT, () -> x.prune(height));
            refused("prune: NEED whatever the height: " + height, need, NEED, () -> need.prune(height));
            refused("prune: off ahead of height " + height, off, STATE, () -> off.prune(height));
        }
        refused("prune: NEED", need, NEED, () -> need.prune(1));
        BlockLog based = busy();
        based.prune(1);
        refused("prune: THE BASE'S height", based, ARGUMENT, () -> based.prune(1));
        refused("prune: above the last", based, ARGUMENT, () -> based.prune(2));
        BlockLog empty = new BlockLog(1);
        refused("prune: there is no version but 0", empty, ARGUMENT, () -> empty.prune(0));
        refused("prune: there is no version 1", empty, ARGUMENT, () -> empty.prune(1));
    }

    private static void outs() {
        BlockLog x = busy();
        BlockLog need = needing();
        BlockLog off = dark();
        for (int version : new int[] {0, -1, 2, Integer.MAX_VALUE, Integer.MIN_VALUE}) {
            refused("out: the version is not kept, or 0: " + version, x, ARGUMENT, () -> x.out(version));
            refused("out: in NEED no version is kept: " + version, need, ARGUMENT, () -> need.out(version));
            refused("out: off ahead of version " + version, off, STATE, () -> off.out(version));
        }
        refused("out: in NEED no version is kept", need, ARGUMENT, () -> need.out(1));
        BlockLog based = busy();
        based.certify(-5, 7);
        based.prune(2);
        refused("out: a version that was pruned", based, ARGUMENT, () -> based.out(1));
        BlockLog bad = busy();
        Lab.damage(bad, Lab.page(0) + 1, 4);
        Lab.feed(bad, 1, 2, 3);
        refused("out: a leaf of it is in no RIGHT page", bad, UNKNOWN, () -> bad.out(1));
        refused("out: the version ahead of UNKNOWN", bad, ARGUMENT, () -> bad.out(2));
    }

    private static void ins() {
        int[] snapshot = Lab.snapshot(7, 77, 3);
        BlockLog off = dark();
        refused("in: off", off, STATE, off::in);
        BlockLog need = needing();
        Lab.feed(need, snapshot);
        refused("in: NEED (ahead of OTHER)", need, NEED, need::in);
        BlockLog rows = busy();
        Lab.feed(rows, snapshot);
        refused("in: there are rows", rows, OTHER, rows::in);
        rows.wipe();
        refused("in: OTHER ahead of WRONG", rows, OTHER, rows::in);
        BlockLog one = Lab.withRows(5, Model.row(9, 1, 1, 1));
        Lab.feed(one, snapshot);
        refused("in: there is a row, though it says nothing", one, OTHER, one::in);
        BlockLog x = collecting(new BlockLog(5));
        refused("in: it is none", x, WRONG, x::in);
        x.wipe();
        refused("in: an empty tape is none", x, WRONG, x::in);
        BlockLog few = new BlockLog(2);
        Lab.feed(few, snapshot);
        refused("in: there are not enough pages", few, FULL, few::in);
        Lab.feed(few, Lab.with(snapshot, 3, 8));
        refused("in: WRONG ahead of FULL", few, WRONG, few::in);
        BlockLog held = new BlockLog(3);
        Lab.leaf(held, 0);
        Lab.leaf(held, 99);
        Lab.feed(held, snapshot);
        refused("in: one page for two leaves", held, FULL, held::in);
    }

    private static void power() {
        BlockLog x = busy();
        for (int acts : new int[] {-2, 5001, Integer.MAX_VALUE, Integer.MIN_VALUE}) {
            refused("cut: not 0 .. 5000, nor NONE, but " + acts, x, ARGUMENT, () -> {
                x.cut(acts);
                return 0;
            });
        }
        Due.sentence("cut: of a call that throws nothing changes", () -> {
            BlockLog y = busy();
            y.cut(3);
            Due.argument("cut", () -> {
                y.cut(5001);
                return 0;
            });
            int acts = y.told(1);
            Due.is("leaf", -4, y.leaf());
            Due.is("acts", acts + 3, y.told(1));
        });
        BlockLog lost = dark();
        lost.poke(15, 1);
        refused("open: LOST", lost, LOST, lost::open);
        Due.sentence("open: LOST, and nothing changes", () -> {
            lost.poke(15, 1);
            Due.is("open", 8, lost.open());
        });
        for (int what : new int[] {-1, 9, Integer.MAX_VALUE, Integer.MIN_VALUE}) {
            refused("told: another what: " + what, x, ARGUMENT, () -> x.told(what));
            BlockLog off = dark();
            refused("told: another what when it is off: " + what, off, ARGUMENT, () -> off.told(what));
        }
    }

    private static void disk() {
        BlockLog x = busy();
        BlockLog off = dark();
        int end = 8224 + 5 * 26;
        for (int place : new int[] {-1, end, Integer.MAX_VALUE, Integer.MIN_VALUE}) {
            refused("byteAt: there is no place " + place, x, BOUNDS, () -> x.byteAt(place));
            refused("byteAt: there is no place when it is off " + place, off, BOUNDS, () -> off.byteAt(place));
            refused("poke: there is no place " + place, off, BOUNDS, () -> off.poke(place, 1));
            refused("poke: no place ahead of on: " + place, x, BOUNDS, () -> x.poke(place, 1));
            refused("poke: no place ahead of a mask: " + place, off, BOUNDS, () -> off.poke(place, 256));
        }
        refused("poke: on", x, STATE, () -> x.poke(0, 1));
        refused("poke: on, by 0", x, STATE, () -> x.poke(0, 0));
        for (int mask : new int[] {-1, 256, Integer.MAX_VALUE, Integer.MIN_VALUE}) {
            refused("poke: mask is not 0 .. 255, but " + mask, off, ARGUMENT, () -> off.poke(0, mask));
            refused("poke: on ahead of mask " + mask, x, STATE, () -> x.poke(0, mask));
        }
    }

    private static void mends() {
        BlockLog x = needing();
        BlockLog off = dark();
        for (int what : new int[] {-1, 0, 2, 4, 7, 8, 127, 128, 129, 131, 132, 133, Integer.MAX_VALUE, Integer.MIN_VALUE}) {
            refused("mend: it is not asked for: " + what, x, ARGUMENT, () -> x.mend(what));
        }
        refused("mend: off", off, STATE, () -> off.mend(130));
        refused("mend: off ahead of what", off, STATE, () -> off.mend(-1));
        refused("mend: the tape has not so many bytes for a row", x, WRONG, () -> x.mend(3));
        refused("mend: the bytes of a page are not right", x, WRONG, () -> x.mend(130));
        refused("mend: what is not asked for ahead of WRONG", x, ARGUMENT, () -> x.mend(0));
        Lab.feed(x, Lab.read(x, Lab.row(0, 3), 23));
        refused("mend: the bytes of a row are not right", x, WRONG, () -> x.mend(3));
        refused("mend: the tape has not so many bytes for a page", x, WRONG, () -> x.mend(130));
        x.wipe();
        refused("mend: an empty tape for a row", x, WRONG, () -> x.mend(3));
        refused("mend: an empty tape for a page", x, WRONG, () -> x.mend(130));
    }
}
