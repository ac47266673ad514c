import java.util.Arrays;

/** At least one test for each promise of the document, in their order: the ordinary, the edges, and wrong inputs. */
public final class PromiseTest {
    private static final int NONE = -1, FULL = -2, NEED = -3, OFF = -4, LOST = -5, UNKNOWN = -6, LATE = -7, WEAK = -8, OTHER = -9, WRONG = -10;

    public static void main(String[] args) {
        promise1();
        promise2();
        promise3and4();
        promise5();
        promise6();
        promise7();
        promise8();
        promise9();
        promise10();
        promise11();
        promise12and13();
        promise14and15();
        promise16();
        promise17();
        promise17keeps();
        promise17full();
        promise17cuts();
        promise18();
        promise19();
        promise19refuses();
        promise20();
        promise21();
        promise22();
        promise22lacking();
        promise22heads();
        promise23and24();
        promise25();
        promise26();
        promise26pages();
        promise27();
        sumsOfZero();
        whatRowsSay();
        oldRowsComeToLight();
        powerOff();
        inNeed();
        Due.end();
    }

    private static void promise1() {
        int[][] sizes = {{-5, 1}, {0, 1}, {1, 1}, {7, 7}, {65536, 65536}, {65537, 65536}, {Integer.MAX_VALUE, 65536},
            {Integer.MIN_VALUE, 1}};
        for (int[] size : sizes) {
            BlockLog x = new BlockLog(size[0]);
            Due.is("on", 1, x.told(0));
            Due.is("acts", 0, x.told(1));
            Due.is("area", 0, x.told(2));
            Due.is("generation", 1, x.told(3));
            Due.is("rows", 0, x.told(4));
            Due.is("free pages of " + size[0], size[1], x.told(5));
            int end = 8224 + 26 * size[1];
            Due.is("the last byte", 0, x.byteAt(end - 1));
            Due.bounds("a byte behind it", () -> x.byteAt(end));
            Lab.bytes("head 0", x, 0, Model.head(1));
            Lab.bytes("head 1", x, 16, new int[16]);
            Due.is("open()", 0, x.open());
        }
    }

    private static void promise2() {
        BlockLog x = new BlockLog(1);
        Due.is("feed", 3, x.feed(0xFFAABBCCL, 3));
        Due.is("feed", 11, x.feed(0x8102030405060708L, 8));
        int[] want = {0xAA, 0xBB, 0xCC, 0x81, 2, 3, 4, 5, 6, 7, 8};
        for (int i = 0; i < want.length; i++) {
            Due.is("at " + i, want[i], x.at(i));
        }
        Due.argument("feed 0", () -> x.feed(1, 0));
        Due.argument("feed 9", () -> x.feed(1, 9));
        Due.argument("feed -1", () -> x.feed(1, -1));
        Due.argument("feed least", () -> x.feed(1, Integer.MIN_VALUE));
        Due.argument("feed most", () -> x.feed(1, Integer.MAX_VALUE));
        x.wipe();
        for (int i = 0; i < 49; i++) {
            x.feed(i, 8);
        }
        Due.is("feed up to 399", 399, x.feed(-1, 7));
        Due.argument("401", () -> x.feed(1, 2));
        Due.is("feed up to 400", 400, x.feed(5, 1));
        Due.argument("401", () -> x.feed(1, 1));
        Due.is("the last one", 5, x.at(399));
        x.off();
        x.wipe();
        Due.is("feed while it is off", 1, x.feed(9, 1));
    }

    private static void promise3and4() {
        BlockLog x = new BlockLog(1);
        Due.is("wipe", 0, x.wipe());
        Due.bounds("at 0", () -> x.at(0));
        x.feed(0x80FF, 2);
        Due.is("at 0", 128, x.at(0));
        Due.is("at 1", 255, x.at(1));
        Due.bounds("at 2", () -> x.at(2));
        Due.bounds("at -1", () -> x.at(-1));
        Due.bounds("at most", () -> x.at(Integer.MAX_VALUE));
        x.off();
        Due.is("at while it is off", 255, x.at(1));
        Due.is("wipe while it is off", 2, x.wipe());
        Due.is("wipe", 0, x.wipe());
        Due.bounds("at 0", () -> x.at(0));
    }

    private static void promise5() {
        BlockLog x = new BlockLog(3);
        Due.argument("an empty leaf", x::leaf);
        Due.is("leaf", 0, Lab.leaf(x, 9));
        Due.is("wipe behind leaf()", 0, x.wipe());
        Lab.bytes("its page", x, Lab.page(0), Model.page(new int[] {9}));
        Due.is("acts", 26, x.told(1));
        Due.is("the same with a 0 is another", 1, Lab.leaf(x, 9, 0));
        Due.is("the same", 0, Lab.leaf(x, 9));
        Due.is("wipe behind the same", 0, x.wipe());
        Due.is("acts", 52, x.told(1));
        int[] sixteen = {1, 2, 3, 4, 5, 6, 7, 8, 9, 10, 11, 12, 13, 14, 15, 16};
        Due.is("16 bytes", 2, Lab.leaf(x, sixteen));
        Lab.bytes("its page", x, Lab.page(2), Model.page(sixteen));
        Due.is("full", FULL, Lab.leaf(x, 1));
        Due.is("the tape stays", 1, x.wipe());
        Due.is("the same when it is full", 2, Lab.leaf(x, sixteen));
        Lab.feed(x, 1, 2, 3, 4, 5, 6, 7, 8, 9, 10, 11, 12, 13, 14, 15, 16, 17);
        Due.argument("17 bytes", x::leaf);
        Due.is("the tape stays", 17, x.wipe());
        x.off();
        Due.state("off, with a wrong tape", x::leaf);
        Lab.overwrite(x, Lab.page(1), new int[26]);
        x.open();
        Due.is("the first free one", 1, Lab.leaf(x, 77));

        BlockLog big = new BlockLog(65536);
        big.off();
        Lab.overwrite(big, Lab.page(65535), Model.page(new int[] {4, 4}));
        big.open();
        Due.is("the same far behind", 65535, Lab.leaf(big, 4, 4));
        Due.is("free pages", 65535, big.told(5));
    }

    private static void promise6() {
        BlockLog x = new BlockLog(2);
        Lab.leaf(x, 1);
        Due.is("change", 1, x.change(0, 0));
        Due.is("to none", 2, x.change(15, NONE));
        Due.is("no leaf", UNKNOWN, x.change(0, 1));
        Due.argument("slot -1", () -> x.change(-1, 0));
        Due.argument("slot 16", () -> x.change(16, 0));
        Due.argument("page 2", () -> x.change(0, 2));
        Due.argument("page -2", () -> x.change(0, -2));
        Due.is("collected", 2, x.told(8));
        for (int i = 3; i <= 8; i++) {
            Due.is("change", i, x.change(3, 0));
        }
        Due.is("nine", FULL, x.change(3, 0));
        Due.is("UNKNOWN ahead of FULL", UNKNOWN, x.change(3, 1));
        Due.argument("slot ahead of FULL", () -> x.change(16, 0));
        Due.is("collected", 8, x.told(8));
        Due.is("no acts", 26, x.told(1));
        x.off();
        Due.state("off, wrong slot", () -> x.change(-1, 0));
        x.poke(Lab.page(0) + 1, 1);
        x.open();
        Due.is("a bad page", UNKNOWN, x.change(0, 0));
    }

    private static void promise7() {
        BlockLog x = new BlockLog(4);
        Lab.leaf(x, 1);
        Lab.leaf(x, 2);
        long one = Lab.leafDigest(1);
        x.change(4, 0);
        x.change(4, NONE);
        Due.argument("height 0", () -> x.block(0, 0));
        Due.argument("height 1000001", () -> x.block(1000001, 0));
        Due.is("unknown parent", UNKNOWN, x.block(1, 12345));
        Due.is("unknown ahead of wrong", UNKNOWN, x.block(3, 12345));
        Due.is("wrong height", WRONG, x.block(2, 0));
        Due.is("wrong height", WRONG, x.block(1000000, 0));
        Due.is("still collected", 2, x.told(8));
        int acts = x.told(1);
        Due.is("block", 0, x.block(1, 0));
        Due.is("acts of three rows", acts + 96, x.told(1));
        Due.is("collected", 0, x.told(8));
        long d1 = Model.sum(4, Model.join(Model.number(1, 4), new int[8], Model.number(4, 4), Model.number(one, 8),
            Model.number(4, 4), new int[8]));
        Due.is("its digest", d1, x.digest(0));
        Lab.bytes("BLOCK", x, Lab.row(0, 0), Model.row(2, 1, 2, 0));
        Lab.bytes("CHANGE", x, Lab.row(0, 1), Model.row(3, 4, 0, one));
        Lab.bytes("CHANGE to none", x, Lab.row(0, 2), Model.row(3, 4, 0, 0));
        x.change(4, 0);
        x.change(4, NONE);
        Due.is("the same block", 0, x.block(1, 0));
        Due.is("nothing is collected behind it", 0, x.told(8));
        Due.is("rows", 3, x.told(4));
        Due.is("an empty block", 3, x.block(2, d1));
        Due.is("by a row", 3, x.block(2, -1));
        Due.is("a row that is no block stands for 0", WRONG, x.block(2, -2));
        Due.is("a row that is not there stands for 0", 4, x.block(1, -100));
        Due.is("WRONG height by a row", WRONG, x.block(2, -4));
        Due.is("height 3", 5, x.block(3, -4));
        Lab.fillRows(x, 120);
        for (int i = 0; i < 8; i++) {
            x.change(i, 1);
        }
        Due.is("no place for nine", FULL, x.block(1, 0));
        Due.is("still collected", 8, x.told(8));
        x.vote(1, 999, -1);
        x.off();
        x.open();
        for (int i = 0; i < 6; i++) {
            x.change(i, 1);
        }
        Due.is("just a place for seven", 121, x.block(1, 0));
        Due.is("rows", 128, x.told(4));
        Due.is("the same block in a full area", 3, x.block(2, -1));
        Due.is("full", FULL, x.block(4, -6));
        x.off();
        Due.state("off, wrong height", () -> x.block(0, 0));
    }

    private static void promise8() {
        BlockLog x = new BlockLog(2);
        Lab.leaf(x, 1);
        x.change(0, 0);
        x.block(1, 0);
        x.vote(1, 0, -1);
        long d = Model.sum(4, Model.join(Model.number(1, 4), new int[8], new int[4], Model.number(Lab.leafDigest(1), 8)));
        Due.is("a BLOCK", d, x.digest(0));
        Due.is("a CHANGE", 0, x.digest(1));
        Due.is("a VOTE", 0, x.digest(2));
        Due.bounds("row 3", () -> x.digest(3));
        Due.bounds("row -1", () -> x.digest(-1));
        x.certify(-1, 7);
        x.prune(1);
        Due.is("a BASE", d, x.digest(0));
        x.off();
        Due.state("off", () -> x.digest(127));
        Due.state("off", () -> x.digest(0));
        Due.bounds("off, row 128", () -> x.digest(128));
        Due.bounds("off, row -1", () -> x.digest(-1));
        x.poke(Lab.row(1, 2) + 3, 1);
        x.open();
        Due.is("in NEED", 0, x.digest(0));
        Due.bounds("in NEED, no such row", () -> x.digest(3));
    }

    private static void promise9() {
        BlockLog x = new BlockLog(2);
        x.block(1, 0);
        x.block(2, -1);
        long d1 = x.digest(0);
        Due.argument("height 0", () -> x.vote(0, 0, d1));
        Due.argument("height 1000001", () -> x.vote(1000001, 0, d1));
        Due.argument("round -1", () -> x.vote(1, -1, d1));
        Due.argument("round 1000001", () -> x.vote(1, 1000001, d1));
        Due.is("no such block", UNKNOWN, x.vote(1, 0, 5));
        Due.is("none", UNKNOWN, x.vote(1, 0, 0));
        Due.is("not of that height", UNKNOWN, x.vote(2, 0, d1));
        Due.is("vote", 2, x.vote(1, 3, d1));
        Lab.bytes("VOTE", x, Lab.row(0, 2), Model.row(1, 1, 3, d1));
        Due.is("the same", 2, x.vote(1, 3, -1));
        Due.is("a lesser round", LATE, x.vote(1, 2, -1));
        x.change(0, NONE);
        Due.is("another block of height 1", 3, x.block(1, 0));
        Due.is("the same round for another", LATE, x.vote(1, 3, -4));
        Due.is("UNKNOWN ahead of LATE", UNKNOWN, x.vote(1, 2, -2));
        Due.is("a greater round for another", 5, x.vote(1, 4, -4));
        Due.is("the older vote again", LATE, x.vote(1, 3, -1));
        Due.is("a greater height", 6, x.vote(2, 0, -2));
        Due.is("a lesser height", LATE, x.vote(1, 1000000, -1));
        Due.is("the last round", 7, x.vote(2, 1000000, -2));
        Due.is("the same", 7, x.vote(2, 1000000, -2));

        BlockLog y = new BlockLog(1);
        y.block(1, 0);
        Lab.fillRows(y, 128);
        Due.is("the same when it is full", 127, y.vote(1, 126, -1));
        Due.is("LATE ahead of FULL", LATE, y.vote(1, 0, -1));
        Due.is("full", FULL, y.vote(1, 127, -1));
        y.off();
        Due.state("off, wrong height", () -> y.vote(0, 0, 0));
    }

    private static void promise10() {
        BlockLog x = new BlockLog(1);
        x.block(1, 0);
        x.vote(1, 0, -1);
        x.vote(1, 1, -1);
        Due.is("a BLOCK", false, x.sent(0));
        Due.is("a VOTE", true, x.sent(1));
        Due.bounds("row 3", () -> x.sent(3) ? 1 : 0);
        Due.bounds("row -1", () -> x.sent(-1) ? 1 : 0);
        x.off();
        Due.state("off", () -> x.sent(127) ? 1 : 0);
        Due.bounds("off", () -> x.sent(128) ? 1 : 0);
        x.poke(Lab.row(0, 1) + 8, 4);
        x.open();
        Due.is("a BAD row", false, x.sent(1));
        Due.is("a RIGHT row beside it", true, x.sent(2));
    }

    private static void promise11() {
        BlockLog x = new BlockLog(2);
        x.block(1, 0);
        x.block(2, -1);
        x.change(0, NONE);
        x.block(1, 0);
        x.block(2, -3);
        long d1 = x.digest(0);
        Due.argument("signers -1", () -> x.certify(d1, -1));
        Due.argument("signers 16", () -> x.certify(d1, 16));
        Due.is("no such block", UNKNOWN, x.certify(3, 15));
        Due.is("UNKNOWN ahead of WEAK", UNKNOWN, x.certify(0, 0));
        for (int weak : new int[] {0, 1, 2, 3, 4, 5, 6, 8, 9, 10, 12}) {
            Due.is("weak " + weak, WEAK, x.certify(d1, weak));
        }
        Due.is("WEAK ahead of OTHER", WEAK, x.certify(-2, 3));
        Due.is("not the next", OTHER, x.certify(-2, 15));
        int rows = x.told(4);
        Due.is("certify", 1, x.certify(d1, 11));
        Lab.bytes("CERTIFICATE", x, Lab.row(0, rows), Model.row(4, 1, 11, d1));
        Due.is("it has one", 1, x.certify(d1, 7));
        Due.is("rows", rows + 1, x.told(4));
        Due.is("another of height 1", OTHER, x.certify(-3, 7));
        Due.is("height 2 of another parent", OTHER, x.certify(-5, 7));
        Due.is("height 2", 2, x.certify(-2, 7));
        Due.is("the first still has one", 1, x.certify(-1, 7));

        BlockLog y = new BlockLog(1);
        y.block(1, 0);
        y.block(2, -1);
        Lab.fillRows(y, 127);
        Due.is("the last row", 1, y.certify(-1, 15));
        Due.is("it has one", 1, y.certify(-1, 15));
        Due.is("full", FULL, y.certify(-2, 15));
        y.off();
        Due.state("off, wrong signers", () -> y.certify(0, 16));
    }

    private static void promise12and13() {
        BlockLog x = new BlockLog(4);
        for (int i = 0; i < 3; i++) {
            Lab.leaf(x, i);
        }
        Due.is("last", 0, x.version(0));
        Due.is("base", 0, x.version(1));
        Due.argument("what 2", () -> x.version(2));
        Due.argument("what -1", () -> x.version(-1));
        Lab.grow(x, 0, 0);
        Lab.grow(x, 15, 1);
        Lab.grow(x, 0, NONE);
        Lab.grow(x, 3, 2);
        Due.is("last", 4, x.version(0));
        long[] leaves = {Lab.leafDigest(0), Lab.leafDigest(1), Lab.leafDigest(2)};
        long[][] want = {{0, 0, 0}, {leaves[0], 0, 0}, {leaves[0], 0, leaves[1]}, {0, 0, leaves[1]}, {0, leaves[2], leaves[1]}};
        slotsAre(x, want, 0);
        Due.argument("slot 16", () -> x.slot(0, 16));
        Due.argument("slot -1", () -> x.slot(0, -1));
        Due.argument("version 5", () -> x.slot(5, 0));
        Due.argument("version -1", () -> x.slot(-1, 0));
        x.prune(2);
        Due.is("base", 2, x.version(1));
        Due.is("last", 4, x.version(0));
        slotsAre(x, want, 2);
        Due.argument("version 1 is not kept", () -> x.slot(1, 0));
        x.off();
        Due.state("off", () -> x.version(0));
        Due.state("off, wrong what", () -> x.version(2));
        Due.state("off, wrong slot", () -> x.slot(2, 16));
    }

    /** Slots 0, 3 and 15 of each version. */
    private static void slotsAre(BlockLog x, long[][] want, int first) {
        for (int v = first; v < want.length; v++) {
            Due.is("slot 0 of " + v, want[v][0], x.slot(v, 0));
            Due.is("slot 3 of " + v, want[v][1], x.slot(v, 3));
            Due.is("slot 15 of " + v, want[v][2], x.slot(v, 15));
            Due.is("slot 7 of " + v, 0, x.slot(v, 7));
        }
    }

    private static void promise14and15() {
        BlockLog x = new BlockLog(3);
        Lab.leaf(x, 1, 200, 0);
        Lab.leaf(x, 5);
        Due.is("page", 0, x.page(Lab.leafDigest(1, 200, 0)));
        Due.is("page", 1, x.page(Lab.leafDigest(5)));
        Due.is("page of 0", NONE, x.page(0));
        Due.is("page of another", NONE, x.page(99));
        Due.is("byte 0", 1, x.byteOf(0, 0));
        Due.is("byte 1", 200, x.byteOf(0, 1));
        Due.is("byte 2", 0, x.byteOf(0, 2));
        Due.is("byte 3", NONE, x.byteOf(0, 3));
        Due.is("byte 15", NONE, x.byteOf(0, 15));
        Due.is("a free page", NONE, x.byteOf(2, 0));
        Due.bounds("byte 16", () -> x.byteOf(0, 16));
        Due.bounds("byte -1", () -> x.byteOf(0, -1));
        Due.bounds("page 3", () -> x.byteOf(3, 0));
        Due.bounds("page -1", () -> x.byteOf(-1, 0));
        x.off();
        Due.state("off", () -> x.page(0));
        Due.state("off", () -> x.byteOf(0, 0));
        Due.bounds("off, page 3", () -> x.byteOf(3, 0));
        Lab.overwrite(x, Lab.page(2), Lab.read(x, Lab.page(1), 26));
        x.poke(Lab.page(1) + 1, 1);
        x.open();
        Due.is("a BAD page", NONE, x.byteOf(1, 0));
        Due.is("the same leaf in a later page", 2, x.page(Lab.leafDigest(5)));
        Lab.feed(x, 5);
        Due.is("mend", 0, x.mend(129));
        Due.is("the first of two", 1, x.page(Lab.leafDigest(5)));
    }

    private static void promise16() {
        BlockLog x = new BlockLog(6);
        for (int i = 0; i < 5; i++) {
            Lab.leaf(x, i);
        }
        Due.is("not named", false, x.named(0));
        x.change(0, 0);
        Due.is("collected is not named", false, x.named(0));
        x.change(0, 1);
        x.block(1, 0);
        Due.is("in a block", true, x.named(0));
        Due.is("in a block", true, x.named(1));
        x.certify(-1, 7);
        x.change(1, 2);
        x.block(2, -1);
        Due.is("in a block that is not certified", true, x.named(2));
        Due.is("a free page", false, x.named(5));
        Due.bounds("page 6", () -> x.named(6) ? 1 : 0);
        Due.bounds("page -1", () -> x.named(-1) ? 1 : 0);
        x.prune(1);
        Due.is("overwritten in its block", false, x.named(0));
        Due.is("in the base", true, x.named(1));
        Due.is("in a kept block", true, x.named(2));
        x.off();
        Due.state("off", () -> x.named(0) ? 1 : 0);
        Due.bounds("off, page 6", () -> x.named(6) ? 1 : 0);
        x.poke(Lab.page(1) + 20, 1);
        x.open();
        Due.is("a BAD page", false, x.named(1));
        x.off();
        x.poke(Lab.row(1, 0) + 4, 1);
        x.open();
        Due.is("in NEED", false, x.named(2));
    }

    private static void promise17() {
        BlockLog x = new BlockLog(6);
        for (int i = 0; i < 5; i++) {
            Lab.leaf(x, i);
        }
        Due.argument("nothing is certified", () -> x.prune(0));
        Due.argument("nothing is certified", () -> x.prune(1));
        Lab.grow(x, 2, 0);
        Lab.grow(x, 2, 1);
        Lab.grow(x, 1, 2);
        Due.argument("not above the base", () -> x.prune(0));
        Due.argument("above the last", () -> x.prune(4));
        Due.argument("far above", () -> x.prune(Integer.MAX_VALUE));
        Due.argument("far below", () -> x.prune(Integer.MIN_VALUE));
        long d3 = Lab.top(x);
        int acts = x.told(1);
        Due.is("three leaves are not named", 3, x.prune(3));
        Due.is("acts: area, 3 rows, head, the old head, 3 pages", acts + 1 + 96 + 16 + 1 + 3, x.told(1));
        Due.is("area", 1, x.told(2));
        Due.is("generation", 2, x.told(3));
        Lab.bytes("head 0", x, 0, new int[16]);
        Lab.bytes("head 1", x, 16, Model.head(2));
        Lab.bytes("BASE", x, Lab.row(1, 0), Model.row(5, 3, 2, d3));
        Lab.bytes("slot 1", x, Lab.row(1, 1), Model.row(3, 1, 0, Lab.leafDigest(2)));
        Lab.bytes("slot 2", x, Lab.row(1, 2), Model.row(3, 2, 0, Lab.leafDigest(1)));
        Due.is("rows", 3, x.told(4));
        Due.is("free pages", 4, x.told(5));
        Lab.bytes("page 0", x, Lab.page(0), new int[26]);
        Due.argument("not above the base", () -> x.prune(3));
        Lab.grow(x, 2, NONE);
        Lab.grow(x, 1, NONE);
        Due.is("no slot has a leaf", 2, x.prune(5));
        Due.is("rows", 1, x.told(4));
        Due.is("area", 0, x.told(2));
        Due.is("generation", 3, x.told(3));
        Due.is("open", 1, Lab.reopen(x));
        x.off();
        Due.state("off", () -> x.prune(1));
    }

    /** Which rows stay: the branch above the base, its certificates and the latest vote, in their order. */
    private static void promise17keeps() {
        BlockLog x = new BlockLog(4);
        Lab.leaf(x, 1);
        x.block(1, 0);                  // 0: a
        x.change(0, NONE);
        x.block(1, 0);                  // 1, 2: b
        long a = x.digest(0);
        x.certify(a, 7);                // 3
        x.vote(1, 0, a);                // 4
        x.change(1, 0);
        x.block(2, a);                  // 5, 6: aa
        long aa = x.digest(5);
        x.block(2, -2);                 // 7: ba, whose parent does not stay
        x.block(3, -8);                 // 8: above ba
        x.vote(2, 0, aa);               // 9
        x.certify(aa, 13);              // 10
        x.change(1, NONE);
        x.block(2, a);                  // 11, 12: another above a
        x.block(3, aa);                 // 13: aaa
        long aaa = x.digest(13);
        Due.is("no leaf is erased", 0, x.prune(1));
        int[][] want = {Model.row(5, 1, 0, a), Model.row(2, 2, 1, a), Model.row(3, 1, 0, Lab.leafDigest(1)),
            Model.row(1, 2, 0, aa), Model.row(4, 2, 13, aa), Model.row(2, 2, 1, a), Model.row(3, 1, 0, 0),
            Model.row(2, 3, 0, aa)};
        Due.is("rows", want.length, x.told(4));
        for (int r = 0; r < want.length; r++) {
            Lab.bytes("row " + r, x, Lab.row(1, r), want[r]);
        }
        Lab.bytes("behind them", x, Lab.row(1, want.length), new int[32]);
        Due.is("last", 2, x.version(0));
        Due.is("the latest vote", 3, x.vote(2, 0, aa));
        Due.is("the base's block is not there", UNKNOWN, x.vote(1, 5, a));
        Due.is("the base's block is not there", UNKNOWN, x.certify(a, 15));
        Due.is("it can be a parent", 8, blockWith(x, 2, a, 2));
        Due.is("0 can't", UNKNOWN, x.block(1, 0));
        Due.is("aaa", 3, x.certify(aaa, 7));
        Due.is("prune again", 0, x.prune(3));
        Due.is("BASE, CHANGE, VOTE", 3, x.told(4));
        Lab.bytes("the vote for a block that is gone", x, Lab.row(0, 2), Model.row(1, 2, 0, aa));
        Due.is("a vote for a block that is gone", UNKNOWN, x.vote(2, 0, aa));
        x.block(4, aaa);
        Due.is("a vote above", 4, x.vote(4, 0, -4));
    }

    private static int blockWith(BlockLog x, int height, long parent, int slot) {
        x.change(slot, NONE);
        return x.block(height, parent);
    }

    /**
     * A full area. (FULL itself can't come: a version that goes takes a BLOCK, its CHANGES and a CERTIFICATE with it,
     * and brings at most a BASE and a CHANGE for each of its CHANGES.)
     */
    private static void promise17full() {
        BlockLog x = new BlockLog(16);
        Lab.feed(x, Lab.snapshot(5, 77, 16));
        x.in();
        x.block(6, 77);
        long six = x.digest(17);
        for (int k = 0; x.told(4) < 124; k++) {
            x.change(k % 16, k / 16);
            x.block(7, six);
        }
        x.vote(6, 0, six);
        x.vote(6, 1, six);
        x.certify(six, 7);
        x.block(7, six);
        Due.is("a certificate more", FULL, x.certify(-19, 7));
        Due.is("rows", 128, x.told(4));
        Due.is("no leaf goes", 0, x.prune(6));
        Due.is("a BLOCK, a VOTE and a CERTIFICATE went", 125, x.told(4));
        Due.is("slot 15", Lab.leafDigest(15), x.slot(6, 15));
        Due.is("the vote", true, x.sent(123));
        Due.is("the empty block", true, x.digest(124) != 0);
    }

    /** Wherever the power goes in prune(), the versions are there behind it. */
    private static void promise17cuts() {
        for (int acts = 0; acts < 200; acts++) {
            BlockLog x = new BlockLog(4);
            Lab.leaf(x, 1);
            Lab.leaf(x, 2);
            Lab.grow(x, 0, 0);
            Lab.grow(x, 0, 1);
            long top = Lab.top(x);
            x.cut(acts);
            int answer = x.prune(2);
            // An area, 2 rows, a head; then the old head and one page.
            int all = 1 + 64 + 16 + 1 + 1;
            Due.is("prune with " + acts, acts < all ? OFF : 1, answer);
            Due.is("on", acts < all ? 0 : 1, x.told(0));
            x.cut(NONE);
            boolean moved = acts >= 81;
            Due.is("open behind " + acts, moved ? 2 : 6, x.open());
            Due.is("area", moved ? 1 : 0, x.told(2));
            Due.is("generation", moved ? 2 : 1, x.told(3));
            Due.is("last", 2, x.version(0));
            Due.is("base", moved ? 2 : 0, x.version(1));
            Due.is("slot", Lab.leafDigest(2), x.slot(2, 0));
            Due.is("top", top, Lab.top(x));
            Lab.bytes("the other head", x, moved ? 0 : 16, new int[16]);
        }
    }

    private static void promise18() {
        BlockLog x = new BlockLog(4);
        Lab.leaf(x, 1, 2, 3);
        Lab.leaf(x, 9);
        Lab.grow(x, 3, 0);
        Lab.grow(x, 0, 1);
        Lab.grow(x, 3, NONE);
        Due.argument("version 0", () -> x.out(0));
        Due.argument("version 4", () -> x.out(4));
        Due.argument("version -1", () -> x.out(-1));
        long d2 = x.digest(3);
        int[] body = Model.join(Model.number(2, 4), Model.number(d2, 8), new int[] {2, 0, 1, 9, 3, 3, 1, 2, 3});
        int[] want = Model.join(body, Model.number(Model.sum(5, body), 8));
        x.feed(55, 1);
        Due.is("out", want.length, x.out(2));
        for (int i = 0; i < want.length; i++) {
            Due.is("at " + i, want[i], x.at(i));
        }
        Due.is("wipe", want.length, x.wipe());
        Due.is("out", 13 + 3 + 8, x.out(3));
        x.off();
        Due.state("off", () -> x.out(0));
        x.poke(Lab.page(0) + 2, 1);
        x.open();
        x.wipe();
        x.feed(55, 1);
        Due.is("a leaf is bad", UNKNOWN, x.out(2));
        Due.is("in each version that has it", UNKNOWN, x.out(1));
        Due.is("the tape stays", 55, x.at(0));
        Due.is("a version without it", 24, x.out(3));
        Lab.feed(x, 1, 2, 3);
        x.mend(128);
        x.prune(2);
        Due.argument("not kept", () -> x.out(1));
        Due.is("the base's", want.length, x.out(2));
        Due.is("at 4", want[4], x.at(4));
        Due.is("at the end", want[want.length - 1], x.at(want.length - 1));
        x.off();
        x.poke(Lab.row(1, 0) + 2, 9);
        x.open();
        Due.argument("in NEED", () -> x.out(2));
    }

    private static void promise19() {
        int[] bytes = Model.join(Model.number(7, 4), Model.number(-5, 8), new int[] {3, 0, 1, 9, 4, 2, 9, 0, 15, 1, 9});
        int[] snapshot = Model.join(bytes, Model.number(Model.sum(5, bytes), 8));
        BlockLog x = new BlockLog(3);
        Lab.leaf(x, 1);
        Lab.feed(x, snapshot);
        int acts = x.told(1);
        Due.is("in", 7, x.in());
        Due.is("acts", acts + 2 * 26 + 4 * 32, x.told(1));
        Due.is("wipe", 0, x.wipe());
        Lab.bytes("BASE", x, Lab.row(0, 0), Model.row(5, 7, 3, -5));
        Lab.bytes("slot 0", x, Lab.row(0, 1), Model.row(3, 0, 0, Lab.leafDigest(9)));
        Lab.bytes("slot 4", x, Lab.row(0, 2), Model.row(3, 4, 0, Lab.leafDigest(9, 0)));
        Lab.bytes("slot 15", x, Lab.row(0, 3), Model.row(3, 15, 0, Lab.leafDigest(9)));
        Due.is("page", 1, x.page(Lab.leafDigest(9)));
        Due.is("page", 2, x.page(Lab.leafDigest(9, 0)));
        Due.is("last", 7, x.version(0));
        Due.is("base", 7, x.version(1));
        Due.is("slot", Lab.leafDigest(9, 0), x.slot(7, 4));
        Due.argument("version 0", () -> x.slot(0, 4));
        Due.is("a block above", 4, x.block(8, -1));
        Lab.feed(x, snapshot);
        Due.is("there are rows", OTHER, x.in());
        Due.is("the tape stays", snapshot.length, x.wipe());
        Due.is("OTHER ahead of WRONG", OTHER, x.in());

        BlockLog y = new BlockLog(1);
        Lab.feed(y, snapshot);
        Due.is("full", FULL, y.in());
        Due.is("nothing is written", 0, y.told(1));
        Due.is("the tape stays", snapshot.length, y.wipe());
        BlockLog z = new BlockLog(2);
        Lab.feed(z, snapshot);
        Due.is("just enough: two are alike", 7, z.in());
        z.off();
        Due.state("off", z::in);

        for (int k = 0; k <= 180; k++) {
            BlockLog w = new BlockLog(2);
            Lab.feed(w, snapshot);
            w.cut(k);
            Due.is("in with " + k, k < 180 ? OFF : 7, w.in());
            Due.is("the tape is used up", 0, w.wipe());
            w.cut(NONE);
            Due.is("open behind " + k, k < 179 ? 0 : 4, w.open());
            Due.is("version", k < 179 ? 0 : 7, w.version(1));
        }
    }

    private static void promise19refuses() {
        int[] good = {0, 0, 0, 7, 0, 0, 0, 0, 0, 0, 0, 1, 2, 3, 1, 9, 5, 2, 8, 8};
        Due.is("good", 7, inOf(good));
        Due.is("no slots", 7, inOf(Lab.with(Arrays.copyOf(good, 13), 12, 0)));
        Due.is("height 0", WRONG, inOf(Lab.with(good, 3, 0)));
        Due.is("height 1000000", 1000000, inOf(Lab.with(Lab.with(Lab.with(good, 1, 0x0F), 2, 0x42), 3, 0x40)));
        Due.is("height 1000001", WRONG, inOf(Lab.with(Lab.with(Lab.with(good, 1, 0x0F), 2, 0x42), 3, 0x41)));
        Due.is("height below 0", WRONG, inOf(Lab.with(good, 0, 255)));
        Due.is("digest 0", WRONG, inOf(Lab.with(good, 11, 0)));
        Due.is("too few slots", WRONG, inOf(Lab.with(good, 12, 1)));
        Due.is("too many slots", WRONG, inOf(Lab.with(good, 12, 3)));
        Due.is("far too many slots", WRONG, inOf(Lab.with(good, 12, 255)));
        Due.is("slots that do not rise", WRONG, inOf(Lab.with(good, 16, 3)));
        Due.is("slots that fall", WRONG, inOf(Lab.with(good, 16, 2)));
        Due.is("slot 16", WRONG, inOf(Lab.with(good, 16, 16)));
        Due.is("slot 255", WRONG, inOf(Lab.with(good, 16, 255)));
        Due.is("slot 15", 7, inOf(Lab.with(good, 16, 15)));
        Due.is("a leaf of none", WRONG, inOf(Lab.with(good, 14, 0)));
        Due.is("a leaf of 17", WRONG, inOf(Lab.with(good, 17, 17)));
        Due.is("a leaf that is too long", WRONG, inOf(Lab.with(good, 17, 3)));
        Due.is("a leaf that is too short", WRONG, inOf(Lab.with(good, 17, 1)));
        int[] long16 = Model.join(Arrays.copyOf(good, 16), new int[] {5, 16}, new int[16]);
        Due.is("a leaf of 16", 7, inOf(long16));
        int[] long17 = Model.join(Arrays.copyOf(good, 16), new int[] {5, 17}, new int[17]);
        Due.is("a leaf of 17", WRONG, inOf(long17));
        BlockLog x = new BlockLog(4);
        Due.is("an empty tape", WRONG, x.in());
        Lab.feed(x, new int[20]);
        Due.is("20 bytes", WRONG, x.in());
        int[] all = Model.join(good, Model.number(Model.sum(5, good), 8));
        for (int i = 0; i < all.length; i++) {
            Lab.feed(x, Lab.with(all, i, all[i] ^ 1));
            Due.is("byte " + i + " is another", WRONG, x.in());
            Due.is("the tape stays", all.length, x.wipe());
        }
        Lab.feed(x, all);
        x.feed(0, 1);
        Due.is("one more", WRONG, x.in());
        Due.is("no acts", 0, x.told(1));
        int[] most = {0, 0, 0, 7, 0, 0, 0, 0, 0, 0, 0, 1, 16};
        for (int s = 0; s < 16; s++) {
            most = Model.join(most, new int[] {s, 16, s}, new int[15]);
        }
        Due.is("16 leaves of 16", 7, inOf(most));
    }

    private static int inOf(int[] body) {
        BlockLog x = new BlockLog(16);
        Lab.feed(x, Model.join(body, Model.number(Model.sum(5, body), 8)));
        return x.in();
    }

    private static void promise20() {
        BlockLog x = new BlockLog(4);
        for (int wrong : new int[] {-2, 5001, Integer.MAX_VALUE, Integer.MIN_VALUE}) {
            Due.argument("cut " + wrong, () -> {
                x.cut(wrong);
                return 0;
            });
        }
        x.cut(26);
        Due.is("just enough", 0, Lab.leaf(x, 1));
        Due.is("still on", 1, x.told(0));
        Due.is("the same leaf has no acts", 0, Lab.leaf(x, 1));
        Due.is("one act more", OFF, Lab.leaf(x, 2));
        Due.is("acts", 26, x.told(1));
        Due.is("off", 0, x.told(0));
        Due.is("open", 0, x.open());
        Due.is("it is told no more", 1, Lab.leaf(x, 2));
        x.cut(0);
        x.cut(NONE);
        Due.is("never", 2, Lab.leaf(x, 3));
        x.cut(10);
        Due.argument("a wrong one", () -> {
            x.cut(5001);
            return 0;
        });
        Due.is("the former one counts", OFF, Lab.leaf(x, 4));
        Due.is("acts", 88, x.told(1));
        x.cut(0);
        Due.is("in open()", OFF, x.open());
        Due.is("open", 0, x.open());
        Due.is("acts", 89, x.told(1));
        x.cut(5000);
        x.off();
        x.open();
        x.cut(3);
        x.off();
        x.open();
        Due.is("off() does not end it", OFF, Lab.leaf(x, 4));
        Due.is("acts", 92, x.told(1));
    }

    private static void promise21() {
        BlockLog x = new BlockLog(2);
        Lab.leaf(x, 1);
        x.change(0, 0);
        Due.is("off", true, x.off());
        Due.is("off again", false, x.off());
        Due.is("no acts", 26, x.told(1));
        Due.is("told", 0, x.told(8));
        x.open();
        Due.is("nothing is collected", 0, x.told(8));
        x.change(0, 0);
        x.cut(0);
        Due.is("vote has no block", UNKNOWN, x.vote(1, 0, 0));
        Due.is("leaf", OFF, Lab.leaf(x, 2));
        Due.is("told", 0, x.told(8));
        x.open();
        Due.is("leaf() does not use it up", 1, x.told(8));
        x.cut(0);
        Due.is("leaf", OFF, Lab.leaf(x, 2));
        Due.is("off behind a cut", false, x.off());
        x.open();
        Due.is("nothing is collected", 0, x.told(8));
    }

    private static void promise22() {
        BlockLog x = new BlockLog(3);
        Lab.leaf(x, 1);
        x.block(1, 0);
        x.vote(1, 0, -1);
        Due.is("open when it is on", 2, x.open());
        long empty = x.digest(0);
        for (int cut = 0; cut <= 32; cut++) {
            int acts = x.told(1);
            x.cut(cut);
            int round = 1 + cut;
            int rows = x.told(4);
            Due.is("vote", cut < 32 ? OFF : rows, x.vote(1, round, -1));
            Due.is("acts", acts + cut, x.told(1));
            x.cut(NONE);
            // 31 bytes are a right row; the last byte of this SUM may be 0, then 30 are.
            boolean whole = cut >= 31 || cut == 30 && Model.row(1, 1, round, empty)[30] == 0;
            Due.is("open behind " + cut, whole ? rows + 1 : rows, x.open());
            Due.is("acts of open", acts + cut + (cut == 0 || cut == 32 ? 0 : 1), x.told(1));
            if (whole) {
                Lab.bytes("the row", x, Lab.row(0, rows), Model.row(1, 1, round, x.digest(0)));
            } else {
                Lab.bytes("the row", x, Lab.row(0, rows), new int[32]);
            }
        }
        x.off();
        x.poke(Lab.row(0, 0) + 31, 165 ^ 3);
        x.poke(Lab.row(0, 1) + 31, 165);
        x.poke(Lab.page(0) + 25, 165 ^ 9);
        x.poke(Lab.page(1) + 25, 1);
        x.poke(Lab.page(2) + 4, 1);
        int acts = x.told(1);
        x.cut(1);
        Due.is("a torn page", OFF, x.open());
        Lab.bytes("page 1", x, Lab.page(1), new int[26]);
        Due.is("page 2", 1, x.byteAt(Lab.page(2) + 4));
        x.cut(2);
        Due.is("a torn page, a row", OFF, x.open());
        Lab.bytes("page 2", x, Lab.page(2), new int[26]);
        Due.is("row 0", 165, x.byteAt(Lab.row(0, 0) + 31));
        Due.is("row 1", 0, x.byteAt(Lab.row(0, 1) + 31));
        x.cut(1);
        Due.is("a row", OFF, x.open());
        Due.is("row 1", 165, x.byteAt(Lab.row(0, 1) + 31));
        Due.is("page 0", 9, x.byteAt(Lab.page(0) + 25));
        Due.is("the page", 4, x.open());
        Due.is("page 0", 165, x.byteAt(Lab.page(0) + 25));
        Due.is("acts", acts + 5, x.told(1));
        Due.is("nothing is to be done", 4, Lab.reopen(x));
        Due.is("acts", acts + 5, x.told(1));
        x.off();
        x.poke(Lab.row(0, 2) + 31, 165);
        x.poke(Lab.row(0, 2) + 30, 1);
        Due.is("rows ahead of the torn one", 2, x.open());
        Lab.bytes("the torn one", x, Lab.row(0, 2), new int[32]);
        Due.is("the one behind it stays", 1, x.byteAt(Lab.row(0, 3)));
        x.off();
        x.poke(Lab.row(0, 2) + 31, 7);
        Due.is("all others are 0: torn", 2, x.open());
        Lab.bytes("the torn one", x, Lab.row(0, 2), new int[32]);
    }

    /** A GROUP that lacks CHANGES at the end is erased, the last row first. */
    private static void promise22lacking() {
        for (int cut = 0; cut <= 128; cut++) {
            BlockLog x = new BlockLog(2);
            Lab.leaf(x, 1);
            x.block(1, 0);
            for (int i = 0; i < 3; i++) {
                x.change(i, 0);
            }
            x.cut(cut);
            Due.is("block", cut < 128 ? OFF : 1, x.block(2, -1));
            int acts = x.told(1);
            Due.is("what was collected", 0, x.told(8));
            x.cut(NONE);
            boolean whole = cut >= 127;
            Due.is("open behind " + cut, whole ? 5 : 1, x.open());
            Due.is("nothing is collected", 0, x.told(8));
            int torn = cut % 32 == 0 || cut % 32 == 31 ? 0 : 1;
            int due = cut == 128 ? 0 : whole ? 1 : (cut + 1) / 32 + torn;
            Due.is("acts of open behind " + cut, acts + due, x.told(1));
            if (!whole) {
                Lab.bytes("the rows", x, Lab.row(0, 1), new int[128]);
            }
        }
        BlockLog x = new BlockLog(2);
        Lab.leaf(x, 1);
        x.change(0, 0);
        x.change(1, 0);
        x.cut(64);
        Due.is("block", OFF, x.block(1, 0));
        x.cut(1);
        Due.is("the last row first", OFF, x.open());
        Due.is("the BLOCK stays", 2, x.byteAt(Lab.row(0, 0)));
        Lab.bytes("its CHANGE", x, Lab.row(0, 1), new int[32]);
        Due.is("open", 0, x.open());
        Lab.bytes("the BLOCK", x, Lab.row(0, 0), new int[32]);
    }

    private static void promise22heads() {
        BlockLog x = new BlockLog(1);
        x.block(1, 0);
        x.off();
        Lab.overwrite(x, 16, Model.head(1));
        Due.is("of like ones that of head 1", 0, x.open());
        Due.is("area", 1, x.told(2));
        Lab.bytes("the other one is erased", x, 0, new int[16]);
        x.off();
        Lab.overwrite(x, 0, Model.head(-1));
        Due.is("without sign", 1, x.open());
        Due.is("area", 0, x.told(2));
        Due.is("generation", -1, x.told(3));
        x.certify(-1, 7);
        Due.is("prune", 0, x.prune(1));
        Due.is("generation", 0, x.told(3));
        Due.is("area", 1, x.told(2));
        x.off();
        x.poke(0, 1);
        int acts = x.told(1);
        Due.is("open", 1, x.open());
        Due.is("the other head is erased", 0, x.byteAt(0));
        Due.is("acts", acts + 1, x.told(1));
        for (int i = 0; i < 16; i++) {
            x.off();
            x.poke(16 + i, 1);
            Due.is("lost", LOST, x.open());
            Due.is("off", 0, x.told(0));
            Due.state("off", () -> x.version(0));
            x.poke(16 + i, 1);
            Due.is("open", 1, x.open());
        }
        x.off();
        Lab.overwrite(x, 16, new int[16]);
        Due.is("lost", LOST, x.open());
    }

    private static void promise23and24() {
        BlockLog x = new BlockLog(2);
        int end = 8224 + 52;
        Due.state("on", () -> x.poke(0, 1));
        Due.state("on, wrong mask", () -> x.poke(0, 256));
        Due.bounds("place ahead of on", () -> x.poke(-1, 1));
        Due.bounds("place ahead of on", () -> x.poke(end, 1));
        x.off();
        Due.argument("mask 256", () -> x.poke(0, 256));
        Due.argument("mask -1", () -> x.poke(0, -1));
        Due.bounds("place ahead of mask", () -> x.poke(end, 256));
        for (int place : new int[] {0, 31, 32, 8223, 8224, 8249, 8250, end - 1}) {
            int was = x.byteAt(place);
            Due.is("poke", was ^ 0xF0, x.poke(place, 0xF0));
            Due.is("byteAt", was ^ 0xF0, x.byteAt(place));
            Due.is("poke", was ^ 0xFF, x.poke(place, 0x0F));
            Due.is("poke by 0", was ^ 0xFF, x.poke(place, 0));
            Due.is("poke", was, x.poke(place, 0xFF));
        }
        Due.is("no acts", 0, x.told(1));
        Due.bounds("byteAt", () -> x.byteAt(-1));
        Due.bounds("byteAt", () -> x.byteAt(end));
        Due.bounds("byteAt", () -> x.byteAt(Integer.MAX_VALUE));
        x.open();
        Due.is("byteAt when it is on", 165, x.byteAt(7));
    }

    private static BlockLog threeBad() {
        BlockLog x = new BlockLog(5);
        for (int i = 0; i < 4; i++) {
            Lab.leaf(x, i, i);
        }
        Lab.grow(x, 0, 0);
        x.vote(1, 0, -1);
        x.off();
        x.poke(Lab.row(0, 1) + 12, 1);
        x.poke(Lab.row(0, 3) + 24, 7);
        x.poke(Lab.page(2) + 1, 8);
        x.poke(Lab.page(3) + 18, 8);
        x.open();
        return x;
    }

    private static void promise25() {
        BlockLog x = threeBad();
        int[] want = {1, 3, 130, 131, NONE, NONE};
        for (int k = 0; k < want.length; k++) {
            Due.is("asked " + k, want[k], x.asked(k));
        }
        Due.is("asked -1", NONE, x.asked(-1));
        Due.is("asked most", NONE, x.asked(Integer.MAX_VALUE));
        Due.is("asked least", NONE, x.asked(Integer.MIN_VALUE));
        Due.is("bad rows", 2, x.told(6));
        Due.is("bad pages", 2, x.told(7));
        x.off();
        Due.state("off", () -> x.asked(0));
        BlockLog y = new BlockLog(65536);
        Due.is("nothing is asked for", NONE, y.asked(0));
        y.off();
        y.poke(Lab.page(65535), 1);
        y.poke(Lab.page(65535) + 25, 1);
        y.open();
        Due.is("the last page", 128 + 65535, y.asked(0));
    }

    private static void promise26() {
        BlockLog x = threeBad();
        int[] change = Arrays.copyOf(Model.row(3, 0, 0, Lab.leafDigest(0, 0)), 23);
        int[] vote = Arrays.copyOf(Lab.read(x, Lab.row(0, 3), 32), 23);
        for (int what : new int[] {0, 2, 4, 127, 128, 132, 133, -1, Integer.MAX_VALUE, Integer.MIN_VALUE}) {
            Due.argument("not asked for " + what, () -> x.mend(what));
        }
        Lab.feed(x, Arrays.copyOf(change, 22));
        Due.is("22 bytes", WRONG, x.mend(1));
        Due.is("the tape stays", 22, x.wipe());
        Lab.feed(x, Arrays.copyOf(change, 24));
        Due.is("24 bytes", WRONG, x.mend(1));
        Lab.feed(x, Lab.read(x, Lab.row(0, 1), 23));
        Due.is("what stands there", WRONG, x.mend(1));
        Lab.feed(x, change);
        Due.is("of another row", WRONG, x.mend(3));
        int acts = x.told(1);
        Due.is("mend", 3, x.mend(1));
        Due.is("acts", acts + 32, x.told(1));
        Due.is("the tape", 0, x.wipe());
        Lab.bytes("the row", x, Lab.row(0, 1), Model.row(3, 0, 0, Lab.leafDigest(0, 0)));
        Due.is("still in NEED", NEED, x.block(1, 0));
        Lab.feed(x, vote);
        Due.is("one byte of the SUM is another", 2, x.mend(3));
        Lab.bytes("the row", x, Lab.row(0, 3), Model.row(1, 1, 0, x.digest(0)));
        Due.is("no NEED", 1, x.version(0));
        x.off();
        Due.state("off", () -> x.mend(-1));
        x.poke(Lab.row(0, 3) + 24, 7);
        x.poke(Lab.row(0, 3) + 25, 7);
        x.open();
        Lab.feed(x, vote);
        Due.is("two bytes of the SUM are others", WRONG, x.mend(3));
        x.off();
        x.poke(Lab.row(0, 3) + 24, 7);
        x.poke(Lab.row(0, 3) + 25, 7);
        x.poke(Lab.row(0, 3) + 8, 7);
        x.open();
        Lab.feed(x, vote);
        x.cut(8);
        Due.is("the power goes", OFF, x.mend(3));
        Due.is("the tape is used up", 0, x.wipe());
        Due.is("open", 4, x.open());
        Lab.feed(x, vote);
        x.cut(9);
        Due.is("the power goes", OFF, x.mend(3));
        Due.is("open", 4, x.open());
        Due.is("it was enough", 0, x.told(6));
        lackingBehindMend();
    }

    private static void lackingBehindMend() {
        BlockLog x = new BlockLog(2);
        Lab.leaf(x, 1);
        x.block(1, 0);
        x.change(0, 0);
        x.change(1, 0);
        x.cut(64);
        x.block(2, -1);
        int[] first = Arrays.copyOf(Lab.read(x, Lab.row(0, 0), 32), 23);
        x.poke(Lab.row(0, 0) + 4, 2);
        int acts = x.told(1);
        Due.is("nothing is erased in NEED", 3, x.open());
        Due.is("acts", acts, x.told(1));
        Lab.feed(x, first);
        Due.is("mend", 0, x.mend(0));
        Due.is("acts", acts + 34, x.told(1));
        Due.is("rows", 1, x.told(4));
        Lab.bytes("the rest", x, Lab.row(0, 1), new int[64]);
        Due.is("a block of the same height", 1, blockWith(x, 2, -1, 0));
    }

    private static void promise26pages() {
        BlockLog x = threeBad();
        Lab.feed(x, 2);
        Due.is("another leaf", WRONG, x.mend(130));
        Lab.feed(x, 2, 2, 0);
        Due.is("another leaf", WRONG, x.mend(130));
        x.wipe();
        Due.is("no leaf", WRONG, x.mend(130));
        Lab.feed(x, new int[17]);
        Due.is("17 bytes", WRONG, x.mend(130));
        Due.is("the tape stays", 17, x.wipe());
        Lab.feed(x, 2, 2);
        int acts = x.told(1);
        Due.is("mend", 3, x.mend(130));
        Due.is("acts", acts + 26, x.told(1));
        Lab.bytes("the page", x, Lab.page(2), Model.page(new int[] {2, 2}));
        Lab.feed(x, 3, 3);
        Due.is("one byte of the SUM is another", 2, x.mend(131));
        Lab.bytes("the page", x, Lab.page(3), Model.page(new int[] {3, 3}));
        Due.is("bad pages", 0, x.told(7));
        x.off();
        x.poke(Lab.page(2), 1);
        x.open();
        Due.is("how many is another", 130, x.asked(2));
        Lab.feed(x, 2, 2);
        Due.is("mend", 2, x.mend(130));
        x.off();
        x.poke(Lab.page(2) + 9, 1);
        x.open();
        Due.is("behind the leaf stands another byte", 130, x.asked(2));
        x.off();
        Lab.overwrite(x, Lab.page(2), Model.closed(3, new int[] {1, 5, 0, 0, 0, 0, 0, 0, 0, 1, 0, 0, 0, 0, 0, 0, 0}));
        x.open();
        Due.is("a right SUM, but no 0s behind", 130, x.asked(2));
        x.off();
        Lab.overwrite(x, Lab.page(2), Model.closed(3, new int[] {17, 5, 5, 5, 5, 5, 5, 5, 5, 5, 5, 5, 5, 5, 5, 5, 5}));
        x.open();
        Due.is("a right SUM, but 17", 130, x.asked(2));
        x.off();
        Lab.overwrite(x, Lab.page(2), Model.closed(3, new int[17]));
        x.open();
        Due.is("a right SUM, but 0", 130, x.asked(2));
        x.off();
        x.poke(Lab.page(2) + 25, 165);
        x.open();
        Due.is("so it is torn when the last byte is 0", NONE, x.asked(2));
        Lab.bytes("the page", x, Lab.page(2), new int[26]);
    }

    private static void promise27() {
        BlockLog x = threeBad();
        x.change(0, 0);
        int[] want = {1, 4 * 26 + 4 * 32, 0, 1, 4, 1, 2, 2, 1};
        for (int what = 0; what < want.length; what++) {
            Due.is("told " + what, want[what], x.told(what));
        }
        Due.argument("told 9", () -> x.told(9));
        Due.argument("told -1", () -> x.told(-1));
        x.off();
        for (int what = 0; what < want.length; what++) {
            Due.is("told " + what + " when it is off", what == 1 ? want[1] : 0, x.told(what));
        }
        Due.argument("told 9", () -> x.told(9));
    }

    /** Bytes that were searched for, since their SUM is 0: that counts only in front of 165, and as a digest it is none. */
    private static void sumsOfZero() {
        int[] leaf = {219, 223, 222, 156, 120, 254, 150, 234, 91, 224, 17, 19, 154, 121, 33, 215};
        Due.is("the leaf's digest", 0, Lab.leafDigest(leaf));
        for (int cut = 0; cut <= 26; cut++) {
            BlockLog x = new BlockLog(2);
            x.cut(cut);
            Lab.feed(x, leaf);
            Due.is("leaf", cut < 26 ? OFF : 0, x.leaf());
            x.cut(NONE);
            x.open();
            Due.is("free pages behind " + cut, cut < 26 ? 2 : 1, x.told(5));
            Due.is("bad pages", 0, x.told(7));
        }
        BlockLog x = new BlockLog(2);
        Lab.leaf(x, leaf);
        Due.is("page of 0", 0, x.page(0));
        Due.is("its last byte", 215, x.byteOf(0, 15));
        Due.is("the same", 0, Lab.leaf(x, leaf));
        Due.is("change", 1, x.change(0, 0));
        Due.is("block", 0, x.block(1, 0));
        Due.is("0 is not named", false, x.named(0));
        x.certify(-1, 7);
        Due.is("slot", 0, x.slot(1, 0));
        Due.is("out", 21, x.out(1));
        x.off();
        x.poke(Lab.page(0) + 25, 1);
        x.open();
        Due.is("bad", 128, x.asked(0));
        Lab.feed(x, leaf);
        Due.is("mend", 0, x.mend(128));
        Due.is("a leaf that is not named", 1, x.prune(1));

        int[] vote = Model.row(1, 1, 847834, 0x1E0793C3E84C7F75L);
        Lab.bytes("the SUM of a row", Lab.withRows(2, vote), Lab.row(0, 0) + 23, 0, 0, 0, 0, 0, 0, 0, 0, 165);
        Due.is("a right row", 1, Lab.reopen(Lab.withRows(2, vote)));
        Due.is("another last byte: bad", 0, Lab.withRows(2, Lab.with(vote, 31, 7)).asked(0));
        Due.is("0 as the last byte: torn", 0, Lab.reopen(Lab.withRows(2, Lab.with(vote, 31, 0))));

        BlockLog y = Lab.withRows(2, Model.row(2, 630560, 0, 0x4C5101AE0C1D3548L));
        Due.is("a row", 1, y.told(4));
        Due.is("a block without a digest says nothing", 0, y.digest(0));
        Due.is("it is none", UNKNOWN, y.vote(630560, 0, 0));
        Due.is("0 is still no parent at that height", WRONG, y.block(630561, 0));
        Due.is("0 is the parent of the first", 1, y.block(1, 0));
    }

    /** Rows that were made by hand, among them such as say nothing. */
    private static void whatRowsSay() {
        long a = Model.sum(4, Model.join(Model.number(1, 4), new int[8]));
        long b = Model.sum(4, Model.join(Model.number(2, 4), Model.number(a, 8)));
        int[][] rows = {
            Model.row(4, 1, 7, a),          // its block is not there ahead of it
            Model.row(3, 0, 0, 5),          // in no group
            Model.row(2, 1, 0, 0),          // a
            Model.row(5, 9, 0, 77),         // not the first row
            Model.row(2, 2, 0, a),          // b
            Model.row(4, 2, 7, b),          // not of the next height
            Model.row(4, 1, 7, a),          // fits
            Model.row(2, 1, 17, 0),         // too many changes
            Model.row(2, 0, 0, 0),          // no height
            Model.row(2, 1000001, 0, 0),    // no height
            Model.row(2, 2, 1, a),          // a vote in place of the change
            Model.row(1, 1, 0, a),
            Model.row(2, 1, 0, 0),          // a again
            Model.row(9, 1, 1, 1),          // no kind
            Model.row(2, 2, 1, a),          // a change of no slot
            Model.row(3, 16, 0, 0),
            Model.row(4, 1, 7, a),          // not of the next height
        };
        BlockLog x = new BlockLog(2);
        x.off();
        for (int r = 0; r < rows.length; r++) {
            Lab.overwrite(x, Lab.row(0, r), rows[r]);
        }
        Due.is("open", rows.length, x.open());
        Due.is("last", 1, x.version(0));
        Due.is("base", 0, x.version(1));
        long[] digests = {0, 0, a, 0, b, 0, 0, 0, 0, 0, 0, 0, a, 0, 0, 0, 0};
        for (int r = 0; r < digests.length; r++) {
            Due.is("digest " + r, digests[r], x.digest(r));
            Due.is("sent " + r, r == 11, x.sent(r));
        }
        Due.is("slot", 0, x.slot(1, 0));
        Due.is("the block is the first one", 2, x.block(1, 0));
        Due.is("it has a certificate", 1, x.certify(a, 7));
        Due.is("it has none that fits", 2, x.certify(b, 7));
        Due.is("rows", rows.length + 1, x.told(4));
        Due.is("prune", 0, x.prune(1));
        Due.is("BASE, b, the vote, its certificate", 4, x.told(4));
        Lab.bytes("BASE", x, Lab.row(1, 0), Model.row(5, 1, 0, a));
        Lab.bytes("b", x, Lab.row(1, 1), rows[4]);
        Lab.bytes("the vote", x, Lab.row(1, 2), rows[11]);
        Lab.bytes("the certificate", x, Lab.row(1, 3), Model.row(4, 2, 7, b));

        BlockLog y = new BlockLog(2);
        y.off();
        Lab.overwrite(y, Lab.row(0, 0), Model.row(5, 3, 0, a));
        Lab.overwrite(y, Lab.row(0, 1), Model.row(2, 1, 0, 0));
        y.open();
        Due.is("a block with BASE's digest is none", UNKNOWN, y.vote(1, 0, a));
        Due.is("but BASE's block is a parent", 2, y.block(4, a));
        y.off();
        Lab.overwrite(y, Lab.row(0, 0), Model.row(5, 3, 0, 0));
        y.open();
        Due.is("a BASE without a digest says nothing", 0, y.version(1));
        Due.is("so a is there", 3, y.vote(1, 0, a));
    }

    /** What is written comes behind the rows, whatever stands there; OPEN reads the old ones behind it again. */
    private static void oldRowsComeToLight() {
        BlockLog x = new BlockLog(1);
        x.block(1, 0);
        for (int round = 0; round < 4; round++) {
            x.vote(1, round, -1);
        }
        x.off();
        x.poke(Lab.row(0, 2) + 31, 165);
        x.poke(Lab.row(0, 2) + 3, 1);
        Due.is("up to the torn one", 2, x.open());
        Due.bounds("no row 2", () -> x.digest(2));
        Due.is("vote", 2, x.vote(1, 9, -1));
        Due.is("rows", 3, x.told(4));
        Due.is("open when it is on", 3, x.open());
        Due.is("the latest vote", 2, x.vote(1, 9, -1));
        x.off();
        Due.is("the old ones again", 5, x.open());
        Due.is("the latest vote is the last one", 4, x.vote(1, 3, -1));
        x.off();
        x.poke(Lab.row(0, 2) + 31, 165);
        x.poke(Lab.row(0, 2) + 3, 1);
        x.open();
        x.vote(1, 1, -1);
        x.cut(20);
        Due.is("over an old row", OFF, x.vote(1, 7, -1));
        Due.is("it is bad, not torn", 5, x.open());
        Due.is("it is asked for", 3, x.asked(0));
    }

    private static void powerOff() {
        BlockLog x = new BlockLog(2);
        Lab.leaf(x, 1);
        x.feed(5, 1);
        x.cut(3);
        Due.is("the power goes", OFF, x.leaf());
        Due.is("the tape is used up", 0, x.wipe());
        Lab.bytes("what was written is there", x, Lab.page(1), 1, 5, 0, 0);
        Due.state("leaf", x::leaf);
        Due.state("change", () -> x.change(0, 0));
        Due.state("block", () -> x.block(1, 0));
        Due.state("vote", () -> x.vote(1, 0, 0));
        Due.state("certify", () -> x.certify(0, 7));
        Due.state("version", () -> x.version(0));
        Due.state("slot", () -> x.slot(0, 0));
        Due.state("page", () -> x.page(0));
        Due.state("prune", () -> x.prune(0));
        Due.state("out", () -> x.out(0));
        Due.state("in", x::in);
        Due.state("asked", () -> x.asked(0));
        Due.state("mend", () -> x.mend(0));
        Due.is("open", 0, x.open());
        x.feed(6, 1);
        x.block(1, 0);
        x.cut(3);
        Due.is("vote", OFF, x.vote(1, 0, -1));
        Due.is("the tape stays in a call that does not use it", 1, x.wipe());
    }

    private static void inNeed() {
        BlockLog x = threeBad();
        Lab.feed(x, 1);
        int acts = x.told(1);
        Due.is("leaf", NEED, x.leaf());
        Due.is("the tape stays", 1, x.wipe());
        Due.argument("leaf with an empty tape", x::leaf);
        Due.is("change", 1, x.change(0, 0));
        Due.is("block", NEED, x.block(1, 0));
        Due.is("still collected", 1, x.told(8));
        Due.argument("block", () -> x.block(0, 0));
        Due.is("vote", NEED, x.vote(1, 0, -1));
        Due.is("certify", NEED, x.certify(-1, 0));
        Due.is("version", 0, x.version(0));
        Due.is("base", 0, x.version(1));
        Due.argument("no versions", () -> x.slot(0, 0));
        Due.argument("no versions", () -> x.slot(1, 0));
        Due.is("prune, whatever the height", NEED, x.prune(-7));
        Due.is("in", NEED, x.in());
        Due.is("page", 0, x.page(Lab.leafDigest(0, 0)));
        Due.is("byteOf", 1, x.byteOf(1, 1));
        Due.is("rows", 4, x.told(4));
        Due.is("no acts", acts, x.told(1));
    }
}
