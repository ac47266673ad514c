import java.util.Arrays;
import java.util.List;

/** A test for each sentence of the terms (what stands ahead of the promises) that names an edge, in their order. */
public final class EdgesOfTermsTest {
    private static final int NONE = -1, FULL = -2, NEED = -3, OFF = -4, LOST = -5, UNKNOWN = -6, OTHER = -9, WRONG = -10;

    public static void main(String[] args) {
        theDisk();
        images();
        acts();
        states();
        groups();
        whatSaysNothing();
        digestsAndVersions();
        openHeads();
        openRows();
        openLacking();
        openPages();
        whatIsForgotten();
        fullAreas();
        need();
        mend();
        mendPages();
        pruneRows();
        pruneHeads();
        named();
        snapshots();
        Due.end();
    }

    // ---- THE DISK

    private static void theDisk() {
        Due.sentence("THE DISK is bytes, all 0 at first", () -> {
            BlockLog x = new BlockLog(3);
            for (int place = 16; place < 8224 + 3 * 26; place++) {
                Due.is("byte " + place, 0, x.byteAt(place));
            }
        });
        Due.sentence("bytes are 0 .. 255", () -> {
            BlockLog x = new BlockLog(1);
            x.off();
            Due.is("poke", 255, x.poke(8227, 255));
            Due.is("byteAt", 255, x.byteAt(8227));
            Due.is("poke in a row", 128, x.poke(40, 128));
            Due.is("byteAt", 128, x.byteAt(40));
        });
        Due.sentence("HEAD h has 16: from place 16 h on", () -> {
            BlockLog x = new BlockLog(1);
            Lab.bytes("head 0", x, 0, Model.head(1));
            Lab.bytes("head 1", x, 16, new int[16]);
            Lab.grow(x, 0, NONE);
            x.prune(1);
            Lab.bytes("head 0", x, 0, new int[16]);
            Lab.bytes("head 1", x, 16, Model.head(2));
        });
        Due.sentence("AREA h has 128 ROWS of 32", () -> {
            BlockLog x = new BlockLog(1);
            x.block(1, 0);
            Lab.fillRows(x, 128);
            Lab.bytes("the last row of area 0", x, 32 + 127 * 32, Model.row(1, 1, 126, x.digest(0)));
            Due.is("the first byte of area 1", 0, x.byteAt(4128));
            Due.is("row 128", FULL, x.vote(1, 127, -1));
        });
        Due.sentence("row r of area 1 from place 32 + 4096 + 32 r on", () -> {
            BlockLog x = new BlockLog(1);
            Lab.grow(x, 0, NONE);
            x.prune(1);
            x.block(2, -1);
            for (int round = 0; x.told(4) < 128; round++) {
                x.vote(2, round, -2);
            }
            Lab.bytes("its first row", x, 4128, Model.row(5, 1, 0, x.digest(0)));
            Lab.bytes("its last row", x, 8192, Model.row(1, 2, 125, x.digest(1)));
            Due.is("the first byte of page 0", 0, x.byteAt(8224));
        });
        Due.sentence("PAGE p has 26: from place 8224 + 26 p on", () -> {
            BlockLog x = new BlockLog(3);
            for (int p = 0; p < 3; p++) {
                Lab.leaf(x, 70 + p);
                Lab.bytes("page " + p, x, 8224 + 26 * p, Model.page(new int[] {70 + p}));
            }
            Due.bounds("behind the last one", () -> x.byteAt(8224 + 78));
        });
    }

    private static void images() {
        Due.sentence("THE SUM of 64 bits", () -> {
            BlockLog x = new BlockLog(1);
            Lab.bytes("by 1", x, 8, 120, 76, 249, 233, 222, 115, 108, 104);
            Lab.leaf(x, 1);
            Lab.bytes("by 3", x, 8241, 57, 6, 225, 63, 201, 41, 147, 159);
        });
        Due.sentence("Numbers stand with the highest byte first", () -> {
            BlockLog x = new BlockLog(1);
            Lab.feed(x, Lab.snapshot(0x0A0B0C, 0x8102030405060708L, 0));
            Due.is("in", 0x0A0B0C, x.in());
            Lab.bytes("BASE", x, 32, 5, 0, 0x0A, 0x0B, 0x0C, 0, 0, 0, 0, 0x81, 2, 3, 4, 5, 6, 7, 8, 0, 0, 0, 0, 0, 0);
        });
        Due.sentence("A HEAD: GENERATION, 0, 0, 0, 165, its SUM by 1", () -> {
            BlockLog x = new BlockLog(1);
            Lab.bytes("head 0", x, 0, 0, 0, 0, 1, 0, 0, 0, 165);
            Lab.bytes("its SUM", x, 8, Model.number(Model.sum(1, 0, 0, 0, 1, 0, 0, 0, 165), 8));
        });
        Due.sentence("A ROW: kind, A, B, C, six 0s, the SUM by 2, 165", () -> {
            BlockLog x = new BlockLog(1);
            x.block(1, 0);
            x.vote(1, 0x10203, -1);
            int[] front = Model.join(new int[] {1, 0, 0, 0, 1, 0, 1, 2, 3}, Model.number(x.digest(0), 8), new int[6]);
            Lab.bytes("VOTE", x, 64, front);
            Lab.bytes("its SUM", x, 64 + 23, Model.number(Model.sum(2, front), 8));
            Due.is("its end", 165, x.byteAt(64 + 31));
        });
        Due.sentence("A PAGE: how many, 16 bytes of a LEAF (0s behind them), the SUM by 3, 165", () -> {
            int[] most = {255, 1, 2, 3, 4, 5, 6, 7, 8, 9, 10, 11, 12, 13, 14, 128};
            for (int[] leaf : new int[][] {{0}, {255}, {1, 2}, most}) {
                BlockLog x = new BlockLog(1);
                Lab.leaf(x, leaf);
                int[] front = Model.join(new int[] {leaf.length}, leaf, new int[16 - leaf.length]);
                Lab.bytes("page", x, 8224, front);
                Lab.bytes("its SUM", x, 8241, Model.number(Model.sum(3, front), 8));
                Due.is("its end", 165, x.byteAt(8249));
            }
        });
    }

    // ---- ACTS

    private static void acts() {
        Due.sentence("a byte is written: an act", () -> {
            BlockLog x = new BlockLog(1);
            Lab.leaf(x, 1);
            Due.is("a page", 26, x.told(1));
            x.block(1, 0);
            Due.is("a row", 26 + 32, x.told(1));
        });
        Due.sentence("a row is ERASED: an act", () -> {
            BlockLog x = Lab.withRows(1, Lab.with(Model.row(1, 1, 1, 1), 31, 0));
            int before = x.told(1);
            x.off();
            Lab.overwrite(x, 32, Lab.with(new int[32], 5, 9));
            x.open();
            Due.is("acts", before + 1, x.told(1));
            Lab.bytes("the row", x, 32, new int[32]);
        });
        Due.sentence("a page is ERASED: an act", () -> {
            BlockLog x = new BlockLog(2);
            Lab.damage(x, Lab.page(1) + 3, 9, Lab.page(1) + 20, 9);
            Due.is("acts", 1, x.told(1));
            Lab.bytes("the page", x, Lab.page(1), new int[26]);
        });
        Due.sentence("a head is ERASED: an act", () -> {
            BlockLog x = new BlockLog(1);
            Lab.damage(x, 16, 9, 31, 9);
            Due.is("acts", 1, x.told(1));
            Lab.bytes("the head", x, 16, new int[16]);
        });
        Due.sentence("an area is ERASED: an act", () -> {
            BlockLog x = new BlockLog(1);
            Lab.damage(x, Lab.row(1, 0), 9, Lab.row(1, 127) + 31, 9);
            Lab.grow(x, 0, NONE);
            int before = x.told(1);
            x.cut(1);
            Due.is("prune", OFF, x.prune(1));
            Due.is("acts", before + 1, x.told(1));
            Lab.bytes("the area", x, Lab.row(1, 0), new int[4096]);
        });
        Due.sentence("Rows and pages are written byte by byte, in order, all of them (also 0s)", () -> {
            int[] page = Model.page(new int[] {9, 0, 9});
            for (int cut = 0; cut < 26; cut++) {
                BlockLog x = new BlockLog(1);
                Lab.feed(x, 9, 0, 9);
                x.cut(cut);
                Due.is("leaf", OFF, x.leaf());
                Lab.bytes("behind " + cut + " acts", x, 8224, Model.join(Lab.first(cut, page), new int[26 - cut]));
            }
        });
        Due.sentence("(also 0s): what stood there is written over", () -> {
            for (int cut = 0; cut <= 32; cut++) {
                BlockLog x = new BlockLog(1);
                x.block(1, 0);
                int[] old = Model.row(255, -1, -1, -1);
                x.off();
                Lab.overwrite(x, Lab.row(0, 1), Lab.with(new int[32], 0, 1));
                Lab.overwrite(x, Lab.row(0, 2), old);
                Due.is("open", 1, x.open());
                x.vote(1, 0, -1);
                int[] row = Model.row(1, 1, 1, x.digest(0));
                x.cut(cut);
                Due.is("vote", cut < 32 ? OFF : 2, x.vote(1, 1, -1));
                Lab.bytes("written", x, Lab.row(0, 2), Lab.first(cut, row));
                Lab.bytes("not yet", x, Lab.row(0, 2) + cut, Arrays.copyOfRange(old, cut, 32));
            }
        });
        Due.sentence("so many acts are done still, the next one is not", () -> {
            BlockLog x = new BlockLog(2);
            x.cut(26);
            Due.is("26 acts", 0, Lab.leaf(x, 1));
            Due.is("on", 1, x.told(0));
            Due.is("the next one", OFF, Lab.leaf(x, 2));
            Due.is("acts", 26, x.told(1));
            Due.is("it is not done", 0, x.byteAt(Lab.page(1)));
        });
        Due.sentence("then it is OFF (and that is told no more)", () -> {
            BlockLog x = new BlockLog(2);
            x.cut(0);
            Due.is("leaf", OFF, Lab.leaf(x, 1));
            Due.is("open", 0, x.open());
            Due.is("leaf", 0, Lab.leaf(x, 1));
        });
    }

    // ---- FREE, RIGHT, TORN, BAD

    private static final int FREE = 0, RIGHT = 1, TORN = 2, BAD = 3;

    /** How OPEN takes a first row: what it is, by all that can be seen. */
    private static int stateOfRow(int... bytes) {
        BlockLog x = new BlockLog(1);
        x.off();
        Lab.overwrite(x, 32, bytes);
        int rows = x.open();
        if (rows == 0) {
            return x.told(1) == 1 ? TORN : FREE;
        }
        return x.told(6) == 1 ? BAD : RIGHT;
    }

    private static int stateOfPage(int... bytes) {
        BlockLog x = Lab.withPage(bytes);
        if (x.told(5) == 2) {
            return x.told(1) == 1 ? TORN : FREE;
        }
        return x.told(7) == 1 ? BAD : RIGHT;
    }

    private static void states() {
        int[] row = Model.row(1, 1, 2, 3);
        int[] page = Model.page(new int[] {5, 6});
        Due.sentence("FREE when all its bytes are 0", () -> {
            Due.is("a row", FREE, stateOfRow(new int[32]));
            Due.is("a page", FREE, stateOfPage(new int[26]));
            for (int i = 0; i < 32; i++) {
                Due.is("row byte " + i + " is 1", TORN, stateOfRow(Lab.with(new int[32], i, 1)));
            }
            for (int i = 0; i < 26; i++) {
                Due.is("page byte " + i + " is 1", TORN, stateOfPage(Lab.with(new int[26], i, 1)));
            }
        });
        Due.sentence("RIGHT when its SUM is right (whatever its last byte is)", () -> {
            for (int last : new int[] {0, 1, 164, 165, 166, 255}) {
                Due.is("a row that ends with " + last, RIGHT, stateOfRow(Lab.with(row, 31, last)));
                Due.is("a page that ends with " + last, RIGHT, stateOfPage(Lab.with(page, 25, last)));
            }
        });
        Due.sentence("a SUM of 0 only when that is 165", () -> {
            // Bytes that were searched for, since their SUM is 0.
            int[] zeroRow = Model.row(1, 1, 847834, 0x1E0793C3E84C7F75L);
            int[] zeroPage = Model.page(new int[] {219, 223, 222, 156, 120, 254, 150, 234, 91, 224, 17, 19, 154, 121, 33, 215});
            Due.is("its SUM", 0, zeroRow[23] + zeroRow[30] + zeroPage[17] + zeroPage[24]);
            for (int last : new int[] {0, 1, 164, 165, 166, 255}) {
                int want = last == 165 ? RIGHT : last == 0 ? TORN : BAD;
                Due.is("a row that ends with " + last, want, stateOfRow(Lab.with(zeroRow, 31, last)));
                Due.is("a page that ends with " + last, want, stateOfPage(Lab.with(zeroPage, 25, last)));
            }
        });
        Due.sentence("of a page also how many is 1 .. 16", () -> {
            int[] full = {1, 1, 1, 1, 1, 1, 1, 1, 1, 1, 1, 1, 1, 1, 1, 1};
            for (int many : new int[] {0, 17, 18, 127, 128, 255}) {
                int[] body = Model.join(new int[] {many}, many == 0 ? new int[16] : full);
                Due.is("how many is " + many, BAD, stateOfPage(Model.closed(3, body)));
                Due.is("and it ends with 0", TORN, stateOfPage(Lab.with(Model.closed(3, body), 25, 0)));
            }
            Due.is("how many is 1", RIGHT, stateOfPage(Model.page(new int[] {1})));
            Due.is("how many is 16", RIGHT, stateOfPage(Model.page(full)));
        });
        Due.sentence("and 0s stand behind so many", () -> {
            for (int many = 1; many <= 15; many++) {
                int[] next = Lab.with(Lab.with(new int[17], 0, many), 1 + many, 1);
                int[] last = Lab.with(Lab.with(new int[17], 0, many), 16, 1);
                Due.is("no 0 right behind " + many, BAD, stateOfPage(Model.closed(3, next)));
                Due.is("no 0 at the end behind " + many, BAD, stateOfPage(Model.closed(3, last)));
            }
        });
        Due.sentence("TORN when its last byte is 0", () -> {
            for (int i = 0; i < 31; i++) {
                Due.is("row byte " + i, TORN, stateOfRow(Lab.with(Lab.with(row, i, row[i] ^ 8), 31, 0)));
            }
            for (int i = 0; i < 25; i++) {
                Due.is("page byte " + i, TORN, stateOfPage(Lab.with(Lab.with(page, i, page[i] ^ 8), 25, 0)));
            }
        });
        Due.sentence("TORN when all others are 0", () -> {
            for (int last : new int[] {1, 164, 165, 166, 255}) {
                Due.is("a row of " + last, TORN, stateOfRow(Lab.with(new int[32], 31, last)));
                Due.is("a page of " + last, TORN, stateOfPage(Lab.with(new int[26], 25, last)));
            }
        });
        Due.sentence("else BAD", () -> {
            for (int i = 0; i < 31; i++) {
                Due.is("row byte " + i, BAD, stateOfRow(Lab.with(row, i, row[i] ^ 128)));
                Due.is("two row bytes", BAD, stateOfRow(Lab.with(Lab.with(new int[32], 31, 1), i, 1)));
            }
            for (int i = 0; i < 25; i++) {
                Due.is("page byte " + i, BAD, stateOfPage(Lab.with(page, i, page[i] ^ 128)));
                Due.is("two page bytes", BAD, stateOfPage(Lab.with(Lab.with(new int[26], 25, 1), i, 1)));
            }
        });
    }

    // ---- WHAT ROWS SAY

    private static int[][] group(int[] head, int changes) {
        int[][] rows = new int[1 + changes][];
        rows[0] = head;
        for (int i = 1; i <= changes; i++) {
            rows[i] = Model.row(3, i % 16, 0, 100 + i);
        }
        return rows;
    }

    private static long[] changes(int n) {
        long[] out = new long[2 * n];
        for (int i = 1; i <= n; i++) {
            out[2 * i - 2] = i % 16;
            out[2 * i - 1] = 100 + i;
        }
        return out;
    }

    private static void groups() {
        int[] wrongHeights = {0, -1, 1000001, Integer.MAX_VALUE, Integer.MIN_VALUE};
        Due.sentence("A BLOCK whose A is 1 .. 1000000 is a GROUP", () -> {
            for (int a : new int[] {1, 2, 999999, 1000000}) {
                Due.is("A " + a, Lab.blockDigest(a, 0), Lab.withRows(1, Model.row(2, a, 0, 0)).digest(0));
            }
            for (int a : wrongHeights) {
                Due.is("A " + a, 0, Lab.withRows(1, Model.row(2, a, 0, 0)).digest(0));
            }
        });
        Due.sentence("A BASE whose A is 1 .. 1000000 is a GROUP", () -> {
            for (int a : new int[] {1, 2, 999999, 1000000}) {
                BlockLog x = Lab.withRows(1, Model.row(5, a, 0, 77));
                Due.is("A " + a, 77, x.digest(0));
                Due.is("its height", a, x.version(1));
            }
            for (int a : wrongHeights) {
                BlockLog x = Lab.withRows(1, Model.row(5, a, 0, 77));
                Due.is("A " + a, 0, x.digest(0));
                Due.is("its height", 0, x.version(1));
            }
        });
        Due.sentence("A BLOCK whose B is 0 .. 16 is a GROUP", () -> {
            for (int b : new int[] {0, 1, 15, 16}) {
                BlockLog x = Lab.withRows(1, group(Model.row(2, 1, b, 0), b));
                Due.is("B " + b, Lab.blockDigest(1, 0, changes(b)), x.digest(0));
            }
            for (int b : new int[] {17, 18, -1, 256, Integer.MAX_VALUE, Integer.MIN_VALUE}) {
                BlockLog x = Lab.withRows(1, group(Model.row(2, 1, b, 0), 18));
                Due.is("B " + b, 0, x.digest(0));
                Due.is("rows", 19, x.told(4));
            }
        });
        Due.sentence("A BASE whose B is 0 .. 16 is a GROUP", () -> {
            for (int b : new int[] {0, 1, 16}) {
                BlockLog x = Lab.withRows(1, group(Model.row(5, 4, b, 9), b));
                Due.is("B " + b, 4, x.version(1));
                Due.is("its last slot", b == 0 ? 0 : 100 + b, x.slot(4, b % 16));
            }
            for (int b : new int[] {17, -1}) {
                Due.is("B " + b, 0, Lab.withRows(1, group(Model.row(5, 4, b, 9), 17)).version(1));
            }
        });
        Due.sentence("behind which B CHANGES stand", () -> {
            int[] vote = Model.row(1, 1, 0, 5);
            int[] block = Model.row(2, 1, 2, 0);
            int[] change = Model.row(3, 1, 0, 101);
            Due.is("two", Lab.blockDigest(1, 0, 1, 101, 1, 101), Lab.withRows(1, block, change, change).digest(0));
            Due.is("one more", Lab.blockDigest(1, 0, 1, 101, 1, 101), Lab.withRows(1, block, change, change, change).digest(0));
            Due.is("one, then another kind", 0, Lab.withRows(1, block, change, vote).digest(0));
            Due.is("one behind another kind", 0, Lab.withRows(1, block, vote, change).digest(0));
            BlockLog x = Lab.withRows(1, Model.row(5, 3, 1, 9), vote);
            Due.is("a BASE", 0, x.version(1));
        });
        Due.sentence("a CHANGE's slot is 0 .. 15", () -> {
            for (int slot : new int[] {0, 15}) {
                BlockLog x = Lab.withRows(1, Model.row(2, 1, 1, 0), Model.row(3, slot, 0, 101));
                Due.is("slot " + slot, Lab.blockDigest(1, 0, slot, 101), x.digest(0));
            }
            for (int slot : new int[] {16, -1, 256, Integer.MIN_VALUE}) {
                BlockLog x = Lab.withRows(1, Model.row(5, 1, 1, 77), Model.row(3, slot, 0, 101));
                Due.is("slot " + slot, 0, x.digest(0));
            }
        });
        Due.sentence("and whose digest is not 0", () -> {
            // A block that was searched for, since its digest is 0.
            BlockLog x = Lab.withRows(1, Model.row(2, 630560, 0, 0x4C5101AE0C1D3548L));
            Due.is("a BLOCK", 0, x.digest(0));
            Due.is("it is none", UNKNOWN, x.vote(630560, 0, 0));
            BlockLog y = Lab.withRows(1, Model.row(5, 7, 0, 0));
            Due.is("a BASE", 0, y.version(1));
            Due.is("so 0 is a parent", 1, y.block(1, 0));
        });
    }

    private static void whatSaysNothing() {
        long a = Lab.blockDigest(1, 0);
        long b = Lab.blockDigest(2, a);
        int[] blockA = Model.row(2, 1, 0, 0);
        int[] blockB = Model.row(2, 2, 0, a);
        int[] certA = Model.row(4, 1, 7, a);
        int[] certB = Model.row(4, 2, 7, b);
        Due.sentence("A BASE that is not the first row says nothing", () -> {
            BlockLog x = Lab.withRows(1, blockA, Model.row(5, 9, 0, 77));
            Due.is("base", 0, x.version(1));
            Due.is("its block", UNKNOWN, x.block(10, 77));
            Due.is("0 is a parent", 0, x.block(1, 0));
        });
        Due.sentence("a BLOCK that is no GROUP says nothing", () -> {
            BlockLog x = Lab.withRows(1, Model.row(2, 1, 17, 0), certA);
            Due.is("version", 0, x.version(0));
            Due.is("its digest", UNKNOWN, x.vote(1, 0, -1));
        });
        Due.sentence("a CHANGE in none says nothing", () -> {
            BlockLog x = new BlockLog(2);
            Lab.leaf(x, 1);
            x.off();
            Lab.overwrite(x, Lab.row(0, 0), Model.row(3, 0, 0, Lab.leafDigest(1)));
            x.open();
            Due.is("slot", 0, x.slot(0, 0));
            Due.is("named", false, x.named(0));
            Lab.grow(x, 1, NONE);
            Due.is("it does not stay, nor does its leaf", 1, x.prune(1));
            Due.is("rows", 1, x.told(4));
        });
        Due.sentence("a CERTIFICATE whose block is not there ahead of it says nothing", () -> {
            Due.is("behind it", 0, Lab.withRows(1, certA, blockA).version(0));
            Due.is("nowhere", 0, Lab.withRows(1, blockA, Model.row(4, 1, 7, 99)).version(0));
            Due.is("of 0", 0, Lab.withRows(1, blockA, Model.row(4, 1, 7, 0)).version(0));
            Due.is("ahead", 1, Lab.withRows(1, blockA, certA).version(0));
        });
        Due.sentence("a CERTIFICATE whose block is not of the next height says nothing", () -> {
            Due.is("too high", 0, Lab.withRows(1, blockA, blockB, certB).version(0));
            Due.is("once more", 1, Lab.withRows(1, blockA, certA, certA).version(0));
            Due.is("too high, then the next", 1, Lab.withRows(1, blockA, blockB, certB, certA).version(0));
            Due.is("in order", 2, Lab.withRows(1, blockA, blockB, certA, certB).version(0));
        });
        Due.sentence("a CERTIFICATE whose block's parent is not the last version's block says nothing", () -> {
            long other = Lab.blockDigest(1, 0, 0, 0);
            long above = Lab.blockDigest(2, other);
            BlockLog x = Lab.withRows(1, blockA, Model.row(2, 1, 1, 0), Model.row(3, 0, 0, 0), certA,
                Model.row(2, 2, 0, other), Model.row(4, 2, 7, above));
            Due.is("version", 1, x.version(0));
            Due.is("its block is there", 6, x.vote(2, 0, above));
            BlockLog y = Lab.withRows(1, Model.row(5, 1, 0, 77), Model.row(2, 2, 0, a), certB);
            Due.is("not BASE's block", 1, y.version(0));
        });
        Due.sentence("other kinds say nothing", () -> {
            for (int kind : new int[] {0, 6, 7, 127, 128, 255}) {
                BlockLog x = Lab.withRows(1, Model.row(kind, 1, 0, a), blockA);
                Due.is("rows with kind " + kind, 2, x.told(4));
                Due.is("digest", 0, x.digest(0));
                Due.is("sent", false, x.sent(0));
                Due.is("base", 0, x.version(1));
                Due.is("a vote is the first one", 2, x.vote(1, 0, a));
            }
        });
        Due.sentence("of GROUPS of one digest the first one is the block", () -> {
            BlockLog x = Lab.withRows(1, Model.row(9, 0, 0, 0), blockA, blockA);
            Due.is("its row", 1, x.block(1, 0));
        });
        Due.sentence("a BLOCK with BASE's digest is none", () -> {
            BlockLog x = Lab.withRows(1, Model.row(5, 3, 0, a), blockA);
            Due.is("vote", UNKNOWN, x.vote(1, 0, a));
            Due.is("certify", UNKNOWN, x.certify(a, 7));
            Due.is("as a parent it is BASE's", WRONG, x.block(2, a));
            Due.is("as a parent it is BASE's", 2, x.block(4, a));
        });
        Due.sentence("the latest vote is the last VOTE", () -> {
            BlockLog x = Lab.withRows(1, blockA, blockB, Model.row(1, 2, 9, b), Model.row(1, 1, 4, a));
            Due.is("the same", 3, x.vote(1, 4, a));
            Due.is("one round more", 4, x.vote(1, 5, a));
        });
    }

    // ---- digests that are told, versions

    private static void digestsAndVersions() {
        Due.sentence("-1 .. -128 stand for the block in row 0 .. 127", () -> {
            BlockLog x = new BlockLog(1);
            x.block(1, 0);
            Lab.fillRows(x, 127);
            Due.is("row 127", 127, x.block(2, -1));
            Due.is("vote for row 127", FULL, x.vote(2, 0, -128));
            Due.is("vote for no row", UNKNOWN, x.vote(2, 0, -129));
            Due.is("certify row 127", OTHER, x.certify(-128, 7));
            Due.is("certify no row", UNKNOWN, x.certify(-129, 7));
            Due.is("certify row 0", FULL, x.certify(-1, 7));
            Due.is("above row 127", FULL, x.block(3, -128));
            Due.is("above no row", UNKNOWN, x.block(3, -129));
            Due.is("above row 0", 127, x.block(2, -1));
        });
        Due.sentence("as digest() tells it (0: none)", () -> {
            BlockLog x = new BlockLog(1);
            x.change(0, NONE);
            x.block(1, 0);
            Due.is("a row that is no block", UNKNOWN, x.vote(1, 0, -2));
            Due.is("a row that is no block", UNKNOWN, x.certify(-2, 7));
            Due.is("a row that is not there", UNKNOWN, x.vote(1, 0, -3));
            Due.is("a row that is not there", UNKNOWN, x.certify(-128, 7));
            Due.is("none as the parent", 2, x.block(1, -2));
            Lab.bytes("its parent", x, Lab.row(0, 2) + 9, new int[8]);
        });
        Due.sentence("other digests stand for themselves", () -> {
            BlockLog x = new BlockLog(1);
            x.block(1, 0);
            for (long digest : new long[] {0, 1, 127, 128, -129, Integer.MIN_VALUE, Long.MAX_VALUE, Long.MIN_VALUE}) {
                Due.is("vote for " + digest, UNKNOWN, x.vote(1, 0, digest));
                Due.is("certify " + digest, UNKNOWN, x.certify(digest, 7));
            }
            Due.is("the digest itself", 1, x.vote(1, 0, Lab.blockDigest(1, 0)));
        });
        Due.sentence("all none, height 0, without a BASE", () -> {
            BlockLog x = new BlockLog(1);
            for (int s = 0; s < 16; s++) {
                Due.is("slot " + s, 0, x.slot(0, s));
            }
            Due.is("last", 0, x.version(0));
            Due.is("base", 0, x.version(1));
        });
        Due.sentence("then CHANGE by CHANGE", () -> {
            BlockLog x = new BlockLog(2);
            Lab.leaf(x, 1);
            Lab.leaf(x, 2);
            x.change(0, 0);
            x.change(0, 1);
            x.change(15, 1);
            x.change(15, NONE);
            x.block(1, 0);
            x.certify(-1, 7);
            Due.is("the later one", Lab.leafDigest(2), x.slot(1, 0));
            Due.is("none again", 0, x.slot(1, 15));
        });
        Due.sentence("behind the certified blocks alone", () -> {
            BlockLog x = new BlockLog(1);
            Lab.leaf(x, 1);
            x.change(0, 0);
            x.block(1, 0);
            Due.argument("version 1", () -> x.slot(1, 0));
            Due.is("version 0", 0, x.slot(0, 0));
        });
        Due.sentence("Kept are the versions from THE BASE'S height to the last certified one's", () -> {
            BlockLog x = new BlockLog(1);
            for (int i = 0; i < 4; i++) {
                Lab.grow(x, 0, NONE);
            }
            x.prune(2);
            Due.argument("ahead of BASE", () -> x.slot(1, 0));
            Due.is("BASE", 0, x.slot(2, 0));
            Due.is("the last one", 0, x.slot(4, 0));
            Due.argument("behind the last one", () -> x.slot(5, 0));
        });
    }

    // ---- OPEN

    private static BlockLog withHeads(int[] one, int[] other) {
        BlockLog x = new BlockLog(1);
        x.off();
        Lab.overwrite(x, 0, one);
        Lab.overwrite(x, 16, other);
        return x;
    }

    private static void openHeads() {
        int[] none = new int[16];
        Due.sentence("without a right head all is LOST, and it is off", () -> {
            BlockLog x = withHeads(none, none);
            Due.is("open", LOST, x.open());
            Due.is("off", 0, x.told(0));
            Due.is("open again", LOST, x.open());
            Due.is("no acts", 0, x.told(1));
        });
        Due.sentence("the head with 0, 0, 0, 165", () -> {
            for (int i = 4; i < 8; i++) {
                int[] eight = Lab.with(Lab.first(8, Model.head(1)), i, i == 7 ? 164 : 1);
                int[] head = Model.join(eight, Model.number(Model.sum(1, eight), 8));
                Due.is("another byte " + i, LOST, withHeads(head, none).open());
                Due.is("another byte " + i, LOST, withHeads(none, head).open());
            }
        });
        Due.sentence("and a right SUM", () -> {
            for (int i = 0; i < 16; i++) {
                int[] head = Lab.with(Model.head(1), i, Model.head(1)[i] ^ 1);
                Due.is("another byte " + i, LOST, withHeads(head, none).open());
                Due.is("another byte " + i, LOST, withHeads(none, head).open());
            }
        });
        Due.sentence("a GENERATION may be any", () -> {
            for (int generation : new int[] {0, 1, Integer.MAX_VALUE, Integer.MIN_VALUE, -1}) {
                BlockLog x = withHeads(none, Model.head(generation));
                Due.is("open", 0, x.open());
                Due.is("area", 1, x.told(2));
                Due.is("generation", generation, x.told(3));
            }
        });
        Due.sentence("of two the one with the greater GENERATION (without sign; of like ones that of head 1)", () -> {
            int[][] pairs = {{1, 2, 1}, {2, 1, 0}, {1, 1, 1}, {0, 0, 1}, {0, 1, 1}, {1, 0, 0}, {-1, 1, 0}, {1, -1, 1}, {-1, -1, 1},
                {Integer.MAX_VALUE, Integer.MIN_VALUE, 1}, {Integer.MIN_VALUE, Integer.MAX_VALUE, 0}, {-1, 0, 0}, {255, 256, 1}};
            for (int[] pair : pairs) {
                BlockLog x = withHeads(Model.head(pair[0]), Model.head(pair[1]));
                Due.is("open", 0, x.open());
                Due.is("area of " + pair[0] + ", " + pair[1], pair[2], x.told(2));
                Due.is("generation", pair[pair[2]], x.told(3));
                Lab.bytes("the other head", x, 16 - 16 * pair[2], none);
            }
        });
        Due.sentence("a head that is not right counts for nothing, however great", () -> {
            int[] great = Lab.with(Model.head(9), 15, Model.head(9)[15] ^ 1);
            BlockLog x = withHeads(Model.head(1), great);
            Due.is("open", 0, x.open());
            Due.is("area", 0, x.told(2));
        });
        Due.sentence("If the other head is not all 0, it is erased", () -> {
            for (int i = 0; i < 16; i++) {
                BlockLog x = new BlockLog(1);
                Lab.damage(x, 16 + i, 1);
                Due.is("byte " + i, 0, x.byteAt(16 + i));
                Due.is("acts", 1, x.told(1));
            }
            BlockLog x = new BlockLog(1);
            Lab.reopen(x);
            Due.is("no acts when it is all 0", 0, x.told(1));
        });
        Due.sentence("the power goes ahead of that", () -> {
            BlockLog x = withHeads(Model.head(1), Model.head(1));
            x.cut(0);
            Due.is("open", OFF, x.open());
            Lab.bytes("the other head stays", x, 0, Model.head(1));
            Due.is("open", 0, x.open());
            Lab.bytes("the other head", x, 0, none);
        });
        Due.sentence("(When the power is on nothing changes)", () -> {
            BlockLog x = new BlockLog(1);
            x.block(1, 0);
            x.change(0, NONE);
            x.feed(1, 1);
            List<String> before = Shot.of(x);
            Due.is("open", 1, x.open());
            Due.same("open", before, Shot.of(x));
        });
        Due.sentence("(nothing changes, though old rows stand behind)", () -> {
            int[] block = Model.row(2, 1, 0, 0);
            BlockLog x = Lab.withRows(1, block, new int[32], Model.row(9, 1, 1, 1), Model.row(9, 1, 1, 1));
            x.vote(1, 0, -1);
            List<String> before = Shot.of(x);
            Due.is("open", 2, x.open());
            Due.same("open", before, Shot.of(x));
        });
        Due.sentence("OFF when the power goes, whatever act there is to be done", () -> {
            int[] row = Model.row(9, 1, 1, 1);
            int[] page = Model.page(new int[] {4});
            Due.is("the other head", OFF, openedInDark(16, Model.head(0)));
            Due.is("a torn row", OFF, openedInDark(32, Lab.with(new int[32], 3, 1)));
            Due.is("a group that lacks changes", OFF, openedInDark(32, Model.row(2, 1, 1, 0)));
            Due.is("a torn page", OFF, openedInDark(8224, Lab.with(new int[26], 3, 1)));
            Due.is("the last byte of a row", OFF, openedInDark(32, Lab.with(row, 31, 0)));
            Due.is("the last byte of a page", OFF, openedInDark(8224, Lab.with(page, 25, 0)));
        });
    }

    /** What open() answers on a disk with these bytes, when no act is done any more. */
    private static int openedInDark(int place, int... bytes) {
        BlockLog x = new BlockLog(1);
        x.off();
        Lab.overwrite(x, place, bytes);
        x.cut(0);
        int answer = x.open();
        Due.is("off", 0, x.told(0));
        Due.is("acts", 0, x.told(1));
        Lab.bytes("the bytes stay", x, place, bytes);
        return answer;
    }

    /** Rows that went are forgotten, and those that come to their places say what they say. */
    private static void whatIsForgotten() {
        Due.sentence("a TORN row is erased once", () -> {
            BlockLog x = Lab.withRows(1, Model.row(2, 1, 0, 0), Lab.with(new int[32], 3, 1));
            Due.is("acts", 1, x.told(1));
            Due.is("open", 1, Lab.reopen(x));
            Due.is("acts", 1, x.told(1));
        });
        Due.sentence("a GROUP that lacks CHANGES is erased once", () -> {
            BlockLog x = Lab.withRows(1, Model.row(2, 1, 0, 0), Model.row(2, 1, 3, 0), Model.row(3, 0, 0, 0));
            Due.is("acts", 2, x.told(1));
            Due.is("open", 1, Lab.reopen(x));
            Due.is("acts", 2, x.told(1));
        });
        Due.sentence("an area that is in use again has no old rows", () -> {
            BlockLog x = new BlockLog(1);
            for (int i = 0; i < 6; i++) {
                Lab.grow(x, 0, NONE);
            }
            x.prune(3);
            Due.is("area", 1, x.told(2));
            x.prune(5);
            Due.is("area", 0, x.told(2));
            Due.is("generation", 3, x.told(3));
            Due.is("rows", 4, Lab.reopen(x));
            Lab.bytes("what stood behind them", x, Lab.row(0, 4), new int[124 * 32]);
            x.prune(6);
            Due.is("area", 1, x.told(2));
            Due.is("rows", 1, Lab.reopen(x));
        });
        Due.sentence("the first byte of a row, and the last", () -> {
            BlockLog x = new BlockLog(1);
            x.block(1, 0);
            Lab.damage(x, 32, 1);
            Due.is("asked", 0, x.asked(0));
            Lab.damage(x, 32, 1);
            Due.is("asked", NONE, x.asked(0));
            Lab.damage(x, 63, 1);
            Due.is("written again", 165, x.byteAt(63));
        });
        Due.sentence("the latest vote goes with its row", () -> {
            BlockLog x = new BlockLog(1);
            x.block(1, 0);
            x.vote(1, 9, -1);
            Lab.damage(x, Lab.row(0, 1) + 31, 165, Lab.row(0, 1) + 4, 1);
            Due.is("a lesser round", 1, x.vote(1, 2, -1));
            BlockLog y = new BlockLog(1);
            y.block(1, 0);
            y.vote(1, 7, -1);
            y.vote(1, 8, -1);
            y.vote(1, 9, -1);
            Lab.damage(y, Lab.row(0, 1) + 31, 165, Lab.row(0, 1) + 4, 1);
            Due.is("those behind the torn one are no rows", 1, y.vote(1, 2, -1));
            Due.is("one round more", 2, y.vote(1, 3, -1));
        });
        Due.sentence("BASE goes with its row", () -> {
            BlockLog x = new BlockLog(1);
            Lab.feed(x, Lab.snapshot(5, 77, 0));
            x.in();
            Lab.damage(x, Lab.row(0, 0) + 31, 165, Lab.row(0, 0) + 4, 1);
            Due.is("base", 0, x.version(1));
            Due.is("its block", UNKNOWN, x.block(6, 77));
            Due.is("0 is a parent", 0, x.block(1, 0));
        });
        Due.sentence("a block goes with its row", () -> {
            BlockLog x = new BlockLog(1);
            x.block(1, 0);
            x.block(2, -1);
            Lab.damage(x, Lab.row(0, 1) + 31, 165, Lab.row(0, 1) + 4, 1);
            x.vote(1, 0, -1);
            Due.is("the row is a vote now", 0, x.digest(1));
            Due.is("no block", UNKNOWN, x.vote(2, 0, -2));
        });
        Due.sentence("a CHANGE whose BLOCK went names nothing", () -> {
            BlockLog x = new BlockLog(1);
            Lab.leaf(x, 1);
            x.block(1, 0);
            x.change(0, 0);
            x.block(2, -1);
            Due.is("named", true, x.named(0));
            Lab.damage(x, Lab.row(0, 1) + 31, 165, Lab.row(0, 1) + 4, 1);
            x.vote(1, 0, -1);
            Due.is("rows", 3, Lab.reopen(x));
            Due.is("named", false, x.named(0));
        });
        Due.sentence("a row where a CERTIFICATE was is none", () -> {
            BlockLog x = new BlockLog(1);
            x.block(1, 0);
            x.block(2, -1);
            x.certify(-1, 7);
            x.certify(-2, 7);
            Lab.damage(x, Lab.row(0, 2) + 31, 165, Lab.row(0, 2) + 4, 1);
            x.certify(-1, 7);
            x.vote(2, 0, -2);
            x.vote(2, 1, -2);
            x.prune(1);
            Due.is("BASE, the block, the latest vote", 3, x.told(4));
        });
    }

    private static void fullAreas() {
        int[] other = Lab.with(Model.row(2, 1, 5, 0), 31, 7);
        Due.sentence("an area that is full ends there: what stands in the other one is nothing", () -> {
            BlockLog x = new BlockLog(1);
            x.block(1, 0);
            Lab.fillRows(x, 128);
            x.off();
            Lab.overwrite(x, Lab.row(1, 0), other);
            Due.is("open", 128, x.open());
            Due.is("no acts", 128 * 32, x.told(1));
            Lab.bytes("the other area", x, Lab.row(1, 0), other);
        });
        Due.sentence("its last row lacks CHANGES", () -> {
            BlockLog x = new BlockLog(1);
            x.block(1, 0);
            Lab.fillRows(x, 127);
            x.off();
            Lab.overwrite(x, Lab.row(0, 127), Model.row(2, 1, 1, 0));
            Lab.overwrite(x, Lab.row(1, 0), other);
            Due.is("open", 127, x.open());
            Lab.bytes("the other area", x, Lab.row(1, 0), other);
        });
        Due.sentence("the second area is full", () -> {
            BlockLog x = new BlockLog(2);
            Lab.leaf(x, 1);
            Lab.grow(x, 0, 0);
            x.prune(1);
            x.block(2, -1);
            for (int round = 0; x.told(4) < 128; round++) {
                x.vote(2, round, -3);
            }
            Due.is("open", 128, Lab.reopen(x));
            Due.is("named", true, x.named(0));
            Due.is("the last row", true, x.sent(127));
            int[] vote = Lab.read(x, Lab.row(1, 127), 23);
            Lab.damage(x, Lab.row(1, 127) + 4, 1);
            Due.is("asked", 127, x.asked(0));
            Due.is("asked", NONE, x.asked(1));
            Lab.feed(x, vote);
            Due.is("mend", 0, x.mend(127));
            Due.is("rows", 128, x.told(4));
            Due.is("named", true, x.named(0));
            Due.is("full", FULL, x.certify(-3, 7));
        });
        Due.sentence("without a BLOCK or BASE nothing lacks", () -> {
            BlockLog x = new BlockLog(1);
            x.off();
            Lab.overwrite(x, Lab.row(0, 127), Model.row(2, 1, 3, 0));
            Lab.overwrite(x, 0, new int[16]);
            Lab.overwrite(x, 16, Model.head(1));
            Lab.overwrite(x, Lab.row(1, 0), Model.row(1, 1, 3, 5));
            Due.is("open", 1, x.open());
            Due.is("no acts", 0, x.told(1));
            Lab.bytes("the other area", x, Lab.row(0, 127), Model.row(2, 1, 3, 0));
        });
    }

    private static void openRows() {
        int[] block = Model.row(2, 1, 0, 0);
        int[] other = Model.row(9, 1, 1, 1);
        Due.sentence("Rows are read up to the first that is FREE", () -> {
            BlockLog x = Lab.withRows(1, block, other, new int[32], other);
            Due.is("rows", 2, x.told(4));
            Due.bounds("row 2", () -> x.digest(2));
            Lab.bytes("what stands behind", x, Lab.row(0, 3), other);
            Due.is("no acts", 0, x.told(1));
        });
        Due.sentence("or TORN: a TORN one is erased", () -> {
            BlockLog x = Lab.withRows(1, block, Lab.with(new int[32], 9, 1), other);
            Due.is("rows", 1, x.told(4));
            Lab.bytes("the torn one", x, Lab.row(0, 1), new int[32]);
            Lab.bytes("what stands behind", x, Lab.row(0, 2), other);
            Due.is("acts", 1, x.told(1));
        });
        Due.sentence("only the first TORN one is erased", () -> {
            int[] torn = Lab.with(new int[32], 9, 1);
            BlockLog x = Lab.withRows(1, block, torn, torn);
            Lab.bytes("the second one", x, Lab.row(0, 2), torn);
            Due.is("acts", 1, x.told(1));
        });
        Due.sentence("BAD ones are rows", () -> {
            BlockLog x = Lab.withRows(1, block, Lab.with(other, 3, 9), other, Lab.with(other, 3, 9));
            Due.is("rows", 4, x.told(4));
            Due.is("bad", 2, x.told(6));
        });
        Due.sentence("an area that is full has no row that is FREE", () -> {
            BlockLog x = new BlockLog(1);
            x.block(1, 0);
            Lab.fillRows(x, 128);
            Due.is("open", 128, Lab.reopen(x));
            Due.is("the last row", true, x.sent(127));
            Due.bounds("row 128", () -> x.sent(128) ? 1 : 0);
            Lab.damage(x, Lab.row(0, 127) + 31, 165, Lab.row(0, 127) + 3, 1);
            Due.is("the last one is torn", 127, x.told(4));
        });
        Due.sentence("an area without rows", () -> {
            BlockLog x = Lab.withRows(1, new int[32], block);
            Due.is("rows", 0, x.told(4));
            Due.bounds("row 0", () -> x.digest(0));
            Due.bounds("row 0", () -> x.sent(0) ? 1 : 0);
        });
        Due.sentence("what is written later comes behind them, whatever bytes stand there", () -> {
            BlockLog x = Lab.withRows(1, block, new int[32], other, other);
            Due.is("vote", 1, x.vote(1, 0, -1));
            Due.is("rows", 2, x.told(4));
            Due.bounds("row 2", () -> x.sent(2) ? 1 : 0);
            Due.is("vote", 2, x.vote(1, 1, -1));
            Lab.bytes("over what stood there", x, Lab.row(0, 2), Model.row(1, 1, 1, x.digest(0)));
            Due.is("open reads what stands behind", 4, Lab.reopen(x));
        });
    }

    private static void openLacking() {
        int[] block = Model.row(2, 1, 0, 0);
        int[] change = Model.row(3, 1, 0, 101);
        int[] vote = Model.row(1, 1, 0, 5);
        Due.sentence("the last BLOCK has a B of 0 .. 16, but fewer rows than B behind it", () -> {
            for (int b : new int[] {1, 2, 15, 16}) {
                BlockLog x = Lab.withRows(1, group(Model.row(2, 1, b, 0), b - 1));
                Due.is("one too few of " + b, 0, x.told(4));
                Due.is("acts", b, x.told(1));
                Lab.bytes("its rows", x, 32, new int[32 * b]);
                Due.is("just enough of " + b, 1 + b, Lab.withRows(1, group(Model.row(2, 1, b, 0), b)).told(4));
            }
            Due.is("0 of 0", 1, Lab.withRows(1, block).told(4));
        });
        Due.sentence("or BASE", () -> {
            Due.is("none of 1", 0, Lab.withRows(1, Model.row(5, 1, 1, 9)).told(4));
            Due.is("15 of 16", 0, Lab.withRows(1, group(Model.row(5, 1, 16, 9), 15)).told(4));
            Due.is("16 of 16", 17, Lab.withRows(1, group(Model.row(5, 1, 16, 9), 16)).told(4));
        });
        Due.sentence("a B that is not 0 .. 16 lacks nothing", () -> {
            for (int b : new int[] {17, -1, Integer.MAX_VALUE, Integer.MIN_VALUE}) {
                BlockLog x = Lab.withRows(1, Model.row(2, 1, b, 0), change);
                Due.is("B " + b, 2, x.told(4));
                Due.is("no acts", 0, x.told(1));
            }
        });
        Due.sentence("fewer rows, of whatever kind", () -> {
            Due.is("a vote behind it", 2, Lab.withRows(1, Model.row(2, 1, 1, 0), vote).told(4));
            Due.is("a change and a vote", 3, Lab.withRows(1, Model.row(2, 1, 2, 0), change, vote).told(4));
            BlockLog x = Lab.withRows(1, Model.row(2, 1, 2, 0), vote);
            Due.is("a vote alone goes with it", 0, x.told(4));
            Due.is("acts", 2, x.told(1));
        });
        Due.sentence("the last one alone", () -> {
            BlockLog x = Lab.withRows(1, Model.row(2, 1, 2, 0), block);
            Due.is("one ahead of the last may lack", 2, x.told(4));
            BlockLog y = Lab.withRows(1, Model.row(2, 1, 3, 0), Model.row(2, 1, 1, 0));
            Due.is("once at each OPEN", 1, y.told(4));
            Due.is("then the next", 0, Lab.reopen(y));
        });
        Due.sentence("whatever its A is", () -> {
            Due.is("A 0", 0, Lab.withRows(1, Model.row(2, 0, 1, 0)).told(4));
            Due.is("A 1000001", 0, Lab.withRows(1, Model.row(5, 1000001, 1, 0)).told(4));
        });
        Due.sentence("it and those are erased, the last one first", () -> {
            for (int cut = 0; cut <= 3; cut++) {
                BlockLog x = new BlockLog(1);
                x.off();
                int[][] rows = {block, Model.row(2, 1, 3, 0), change, change};
                for (int r = 0; r < rows.length; r++) {
                    Lab.overwrite(x, Lab.row(0, r), rows[r]);
                }
                x.cut(cut);
                Due.is("open", cut < 3 ? OFF : 1, x.open());
                for (int r = 0; r < rows.length; r++) {
                    Lab.bytes("row " + r, x, Lab.row(0, r), r < 4 - cut ? rows[r] : new int[32]);
                }
            }
        });
        Due.sentence("if no row is BAD", () -> {
            BlockLog x = Lab.withRows(1, Lab.with(block, 3, 9), Model.row(2, 1, 3, 0), change);
            Due.is("rows", 3, x.told(4));
            Due.is("no acts", 0, x.told(1));
            BlockLog y = Lab.withRows(1, Model.row(2, 1, 3, 0), Lab.with(change, 3, 9));
            Due.is("rows", 2, y.told(4));
        });
    }

    private static void openPages() {
        int[] page = Model.page(new int[] {4});
        int[] torn = Lab.with(new int[26], 9, 1);
        Due.sentence("Then pages in order: a TORN one is erased", () -> {
            for (int cut = 0; cut <= 2; cut++) {
                BlockLog x = new BlockLog(4);
                x.off();
                int[][] pages = {torn, page, torn, Lab.with(page, 3, 7)};
                for (int p = 0; p < 4; p++) {
                    Lab.overwrite(x, Lab.page(p), pages[p]);
                }
                x.cut(cut);
                Due.is("open", cut < 2 ? OFF : 0, x.open());
                Lab.bytes("page 0", x, Lab.page(0), cut > 0 ? new int[26] : torn);
                Lab.bytes("page 1", x, Lab.page(1), page);
                Lab.bytes("page 2", x, Lab.page(2), cut > 1 ? new int[26] : torn);
                Lab.bytes("page 3", x, Lab.page(3), pages[3]);
            }
        });
        Due.sentence("Then rows, then pages that are RIGHT, but end with another byte than 165", () -> {
            int[] row = Model.row(9, 1, 1, 1);
            for (int cut = 0; cut <= 5; cut++) {
                BlockLog x = new BlockLog(3);
                x.off();
                Lab.overwrite(x, Lab.row(0, 0), Lab.with(row, 31, 0));
                Lab.overwrite(x, Lab.row(0, 1), Lab.with(row, 31, 164));
                Lab.overwrite(x, Lab.page(0), Lab.with(page, 25, 255));
                Lab.overwrite(x, Lab.page(1), Lab.with(page, 25, 0));
                Lab.overwrite(x, Lab.page(2), torn);
                x.cut(cut);
                Due.is("open with " + cut, cut < 5 ? OFF : 2, x.open());
                Due.is("first the torn page", cut > 0 ? 0 : 1, x.byteAt(Lab.page(2) + 9));
                Due.is("row 0", cut > 1 ? 165 : 0, x.byteAt(Lab.row(0, 0) + 31));
                Due.is("row 1", cut > 2 ? 165 : 164, x.byteAt(Lab.row(0, 1) + 31));
                Due.is("page 0", cut > 3 ? 165 : 255, x.byteAt(Lab.page(0) + 25));
                Due.is("page 1", cut > 4 ? 165 : 0, x.byteAt(Lab.page(1) + 25));
            }
        });
        Due.sentence("BAD rows and pages keep their last byte", () -> {
            int[] row = Lab.with(Lab.with(Model.row(9, 1, 1, 1), 3, 9), 31, 7);
            BlockLog x = Lab.withRows(1, row);
            Due.is("a row", 7, x.byteAt(32 + 31));
            BlockLog y = Lab.withPage(Lab.with(Lab.with(page, 3, 9), 25, 7));
            Due.is("a page", 7, y.byteAt(8224 + 25));
            Due.is("no acts", 0, x.told(1) + y.told(1));
        });
        Due.sentence("this is done in NEED too", () -> {
            BlockLog x = new BlockLog(2);
            x.off();
            Lab.overwrite(x, Lab.row(0, 0), Lab.with(Model.row(9, 1, 1, 1), 3, 9));
            Lab.overwrite(x, Lab.row(0, 1), Lab.with(Model.row(9, 1, 1, 1), 31, 0));
            Lab.overwrite(x, Lab.page(0), torn);
            Lab.overwrite(x, Lab.page(1), Lab.with(page, 25, 0));
            Due.is("open", 2, x.open());
            Due.is("acts", 3, x.told(1));
        });
        Due.sentence("A new disk has head 0 with GENERATION 1 (no acts are counted for it), and is on", () -> {
            BlockLog x = new BlockLog(1);
            Due.is("on", 1, x.told(0));
            Due.is("acts", 0, x.told(1));
            Due.is("area", 0, x.told(2));
            Due.is("generation", 1, x.told(3));
        });
    }

    // ---- NEED and MEND

    /** A log with a certified block, a vote, three leaves and a free page; the vote's row is BAD. */
    private static BlockLog inNeed() {
        BlockLog x = new BlockLog(4);
        for (int i = 0; i < 3; i++) {
            Lab.leaf(x, i);
        }
        Lab.grow(x, 0, 0);
        x.vote(1, 0, -1);
        Lab.damage(x, Lab.row(0, 3) + 4, 1);
        return x;
    }

    private static void need() {
        Due.sentence("BAD rows and pages are ASKED for", () -> {
            BlockLog x = inNeed();
            Lab.damage(x, Lab.page(2) + 1, 1);
            Due.is("the row", 3, x.asked(0));
            Due.is("the page", 130, x.asked(1));
            Due.is("no more", NONE, x.asked(2));
        });
        Due.sentence("in NEED: no versions", () -> {
            BlockLog x = inNeed();
            Due.is("last", 0, x.version(0));
            Due.argument("version 0", () -> x.slot(0, 0));
            Due.argument("version 1", () -> x.slot(1, 0));
            Due.argument("out", () -> x.out(1));
        });
        Due.sentence("in NEED: no blocks", () -> {
            BlockLog x = inNeed();
            Due.is("digest", 0, x.digest(0));
            Due.is("named", false, x.named(0));
        });
        Due.sentence("in NEED: THE BASE'S height 0", () -> {
            BlockLog x = new BlockLog(1);
            Lab.feed(x, Lab.snapshot(9, 77, 1));
            x.in();
            Due.is("base", 9, x.version(1));
            Lab.damage(x, Lab.row(0, 1) + 4, 1);
            Due.is("base", 0, x.version(1));
        });
        Due.sentence("in NEED: nothing can be written", () -> {
            BlockLog x = inNeed();
            int acts = x.told(1);
            Due.is("leaf", NEED, Lab.leaf(x, 9));
            Due.is("a leaf that is there", NEED, Lab.leaf(x, 0));
            Due.is("block", NEED, x.block(1, 0));
            Due.is("vote", NEED, x.vote(1, 1, -1));
            Due.is("certify", NEED, x.certify(-1, 7));
            Due.is("prune", NEED, x.prune(1));
            Due.is("in", NEED, x.in());
            Due.is("acts", acts, x.told(1));
        });
        Due.sentence("but by mend()", () -> {
            BlockLog x = inNeed();
            int[] vote = Lab.read(x, Lab.row(0, 3), 23);
            Lab.damage(x, Lab.page(1) + 1, 4);
            Lab.feed(x, 1);
            Due.is("a page", 1, x.mend(129));
            Due.is("still in NEED", NEED, x.prune(1));
            Lab.feed(x, Lab.with(vote, 4, 1));
            Due.is("the row", 0, x.mend(3));
            Due.is("no more", 1, x.version(0));
        });
        Due.sentence("a BAD page alone is no NEED", () -> {
            BlockLog x = new BlockLog(2);
            Lab.leaf(x, 1);
            Lab.damage(x, Lab.page(0) + 1, 1);
            Due.is("asked", 128, x.asked(0));
            Due.is("block", 0, x.block(1, 0));
            Due.is("leaf", 1, Lab.leaf(x, 1));
        });
    }

    private static void mend() {
        int[] vote = Model.row(1, 1, 3, 5);
        int[] body = Lab.first(23, vote);
        Due.sentence("MEND: the tape has 23 bytes for a row", () -> {
            for (int n : new int[] {0, 1, 16, 22, 24, 32}) {
                BlockLog x = Lab.withRows(1, Lab.with(vote, 4, 9));
                Lab.feed(x, Lab.first(n, vote));
                Due.is(n + " bytes", WRONG, x.mend(0));
                Due.is("the tape stays", n, x.wipe());
            }
        });
        Due.sentence("right when the SUM of what they make is the one that stands there", () -> {
            for (int i = 0; i < 23; i++) {
                BlockLog x = Lab.withRows(1, Lab.with(vote, i, vote[i] ^ 64));
                Lab.feed(x, Lab.with(body, (i + 1) % 23, body[(i + 1) % 23] ^ 1));
                Due.is("another byte", WRONG, x.mend(0));
                Lab.feed(x, body);
                Due.is("byte " + i, 0, x.mend(0));
                Lab.bytes("the row", x, 32, vote);
            }
            int[] all = vote.clone();
            Arrays.fill(all, 0, 23, 255);
            BlockLog x = Lab.withRows(1, Lab.with(all, 31, 7));
            Lab.feed(x, body);
            Due.is("all bytes were altered", 0, x.mend(0));
            Lab.bytes("the row", x, 32, vote);
        });
        Due.sentence("or when they are what stands there and their SUM is that one but for one byte", () -> {
            for (int i = 23; i < 31; i++) {
                BlockLog x = Lab.withRows(1, Lab.with(vote, i, vote[i] ^ 255));
                Lab.feed(x, body);
                Due.is("byte " + i, 0, x.mend(0));
                Lab.bytes("the row", x, 32, vote);
                int next = i == 30 ? 23 : i + 1;
                BlockLog y = Lab.withRows(1, Lab.with(Lab.with(vote, i, vote[i] ^ 255), next, vote[next] ^ 1));
                Lab.feed(y, body);
                Due.is("but for two", WRONG, y.mend(0));
            }
        });
        Due.sentence("one byte of the SUM, but not what stands there", () -> {
            BlockLog x = Lab.withRows(1, Lab.with(Lab.with(vote, 25, vote[25] ^ 1), 4, 9));
            Lab.feed(x, body);
            Due.is("mend", WRONG, x.mend(0));
        });
        Due.sentence("a row whose six 0s are others: 23 bytes are 23 bytes", () -> {
            int[] front = Model.join(Lab.first(17, Model.row(9, 1, 1, 1)), new int[] {1, 2, 3, 4, 5, 6});
            int[] odd = Model.closed(2, front);
            BlockLog x = Lab.withRows(1, Model.row(2, 1, 0, 0), Lab.with(odd, 4, 9));
            Lab.feed(x, front);
            Due.is("mend", 0, x.mend(1));
            Lab.bytes("the row", x, Lab.row(0, 1), odd);
            x.vote(1, 0, -1);
            Lab.bytes("rows behind it have 0s", x, Lab.row(0, 2), Model.row(1, 1, 0, x.digest(0)));
        });
        Due.sentence("Then the row is written anew, wholly", () -> {
            for (int cut = 0; cut <= 32; cut++) {
                int[] old = Lab.with(Lab.with(vote, 20, 9), 31, 7);
                BlockLog x = Lab.withRows(1, old);
                Lab.feed(x, body);
                x.cut(cut);
                Due.is("mend", cut < 32 ? OFF : 0, x.mend(0));
                Due.is("acts", cut, x.told(1));
                Due.is("the tape", 0, x.wipe());
                Lab.bytes("written", x, 32, Lab.first(cut, vote));
                Lab.bytes("not yet", x, 32 + cut, Arrays.copyOfRange(old, cut, 32));
            }
        });
        int[] lacking = Model.row(2, 1, 2, 0);
        int[] change = Model.row(3, 1, 0, 101);
        Due.sentence("if none is BAD any more, a GROUP that lacks CHANGES at the end is erased", () -> {
            BlockLog x = Lab.withRows(1, Lab.with(vote, 4, 9), Lab.with(vote, 4, 9), lacking, change);
            Lab.feed(x, body);
            Due.is("one is BAD still", 1, x.mend(1));
            Due.is("rows", 4, x.told(4));
            Due.is("acts", 32, x.told(1));
            Lab.feed(x, body);
            Due.is("none", 0, x.mend(0));
            Due.is("rows", 2, x.told(4));
            Due.is("acts", 32 + 32 + 2, x.told(1));
            Lab.bytes("the GROUP", x, Lab.row(0, 2), new int[64]);
        });
        Due.sentence("the mended row may be of that GROUP", () -> {
            BlockLog x = Lab.withRows(1, vote, lacking, Lab.with(change, 4, 9));
            Lab.feed(x, Lab.first(23, change));
            Due.is("mend", 0, x.mend(2));
            Due.is("rows", 1, x.told(4));
            BlockLog y = Lab.withRows(1, Lab.with(Model.row(2, 1, 1, 0), 4, 9));
            Lab.feed(y, Lab.first(23, Model.row(2, 1, 1, 0)));
            Due.is("mend", 0, y.mend(0));
            Due.is("rows", 0, y.told(4));
        });
        Due.sentence("the power goes in that", () -> {
            BlockLog x = Lab.withRows(1, Lab.with(vote, 4, 9), lacking, change);
            Lab.feed(x, body);
            x.cut(33);
            Due.is("mend", OFF, x.mend(0));
            Lab.bytes("the BLOCK stays", x, Lab.row(0, 1), lacking);
            Lab.bytes("the CHANGE", x, Lab.row(0, 2), new int[32]);
            Due.is("open", 1, x.open());
        });
        Due.sentence("if a row was: not when a page was", () -> {
            BlockLog x = Lab.withRows(1, Lab.with(vote, 4, 9), lacking, change);
            Lab.leaf(x, 1);
            x.off();
            Lab.overwrite(x, 8224, Lab.with(Model.page(new int[] {5}), 1, 9));
            x.open();
            Lab.feed(x, 5);
            Due.is("mend", 1, x.mend(128));
            Due.is("rows", 3, x.told(4));
        });
    }

    private static void mendPages() {
        int[] most = {1, 2, 3, 4, 5, 6, 7, 8, 9, 10, 11, 12, 13, 14, 15, 16};
        Due.sentence("MEND: the tape has 1 .. 16 bytes for a page", () -> {
            BlockLog x = Lab.withPage(Lab.with(Model.page(most), 5, 99));
            x.wipe();
            Due.is("none", WRONG, x.mend(128));
            Lab.feed(x, Model.join(most, new int[] {17}));
            Due.is("17", WRONG, x.mend(128));
            Due.is("the tape stays", 17, x.wipe());
            Lab.feed(x, Lab.first(15, most));
            Due.is("15 of 16", WRONG, x.mend(128));
            Lab.feed(x, most);
            Due.is("16", 0, x.mend(128));
            Lab.bytes("the page", x, 8224, Model.page(most));
            BlockLog y = Lab.withPage(Lab.with(Model.page(new int[] {7}), 1, 99));
            Lab.feed(y, 7);
            Due.is("1", 0, y.mend(128));
            Lab.bytes("the page", y, 8224, Model.page(new int[] {7}));
        });
        Due.sentence("a page that never was a leaf can't be mended", () -> {
            BlockLog x = Lab.withPage(Model.closed(3, new int[17]));
            Due.is("asked", 128, x.asked(0));
            Due.is("no bytes", WRONG, x.mend(128));
            int[] body = Model.join(new int[] {17}, most);
            BlockLog y = Lab.withPage(Model.closed(3, body));
            Due.is("asked", 128, y.asked(0));
            Lab.feed(y, Model.join(most, new int[] {17}));
            Due.is("17 bytes", WRONG, y.mend(128));
        });
        Due.sentence("of a page with how many, and 0s behind", () -> {
            int[] page = Model.page(new int[] {7, 0});
            for (int i = 0; i < 17; i++) {
                BlockLog x = Lab.withPage(Lab.with(page, i, page[i] ^ 32));
                Lab.feed(x, 7);
                Due.is("one byte too few", WRONG, x.mend(128));
                Lab.feed(x, 7, 0, 0);
                Due.is("one byte too many", WRONG, x.mend(128));
                Lab.feed(x, 7, 0);
                Due.is("byte " + i, 0, x.mend(128));
                Lab.bytes("the page", x, 8224, page);
            }
        });
        Due.sentence("of a page: what stands there, and one byte of the SUM is another", () -> {
            int[] page = Model.page(new int[] {7, 0});
            for (int i = 17; i < 25; i++) {
                BlockLog x = Lab.withPage(Lab.with(page, i, page[i] ^ 255));
                Lab.feed(x, 7, 0);
                Due.is("byte " + i, 0, x.mend(128));
                Lab.bytes("the page", x, 8224, page);
                int next = i == 24 ? 17 : i + 1;
                BlockLog y = Lab.withPage(Lab.with(Lab.with(page, i, page[i] ^ 255), next, page[next] ^ 1));
                Lab.feed(y, 7, 0);
                Due.is("but for two", WRONG, y.mend(128));
            }
        });
        Due.sentence("Then the page is written anew, wholly", () -> {
            int[] page = Model.page(new int[] {7, 0});
            for (int cut = 0; cut <= 26; cut++) {
                int[] old = Lab.with(Lab.with(page, 16, 9), 25, 7);
                BlockLog x = Lab.withPage(old);
                Lab.feed(x, 7, 0);
                x.cut(cut);
                Due.is("mend", cut < 26 ? OFF : 0, x.mend(128));
                Due.is("acts", cut, x.told(1));
                Due.is("the tape", 0, x.wipe());
                Lab.bytes("written", x, 8224, Lab.first(cut, page));
                Lab.bytes("not yet", x, 8224 + cut, Arrays.copyOfRange(old, cut, 26));
            }
        });
    }

    // ---- PRUNE

    private static void pruneRows() {
        long a = Lab.blockDigest(1, 0);
        long b = Lab.blockDigest(2, a);
        long c = Lab.blockDigest(3, b);
        Due.sentence("the other area is erased, whatever stands there", () -> {
            BlockLog x = new BlockLog(1);
            Lab.damage(x, Lab.row(1, 0), 1, Lab.row(1, 64) + 5, 2, Lab.row(1, 127) + 31, 3);
            Lab.grow(x, 0, NONE);
            x.prune(1);
            Lab.bytes("behind BASE", x, Lab.row(1, 1), new int[127 * 32]);
        });
        Due.sentence("a BASE of that version; CHANGES for slots that have a leaf, in order", () -> {
            BlockLog x = new BlockLog(16);
            for (int s = 15; s >= 0; s--) {
                Lab.leaf(x, s);
                if (s % 8 == 7 && s < 15) {
                    x.block(1, 0);
                    x.certify(-1, 7);
                }
                x.change(s, 15 - s);
            }
            x.block(2, -1);
            x.certify(-11, 7);
            long top = x.digest(10);
            Due.is("prune", 0, x.prune(2));
            Due.is("rows", 17, x.told(4));
            Lab.bytes("BASE", x, Lab.row(1, 0), Model.row(5, 2, 16, top));
            for (int s = 0; s < 16; s++) {
                Lab.bytes("slot " + s, x, Lab.row(1, 1 + s), Model.row(3, s, 0, Lab.leafDigest(s)));
            }
        });
        Due.sentence("a version without a leaf", () -> {
            BlockLog x = new BlockLog(1);
            Lab.grow(x, 0, NONE);
            long top = x.digest(0);
            Due.is("prune", 0, x.prune(1));
            Due.is("rows", 1, x.told(4));
            Lab.bytes("BASE", x, Lab.row(1, 0), Model.row(5, 1, 0, top));
        });
        Due.sentence("with the bytes that they have (the last one 165)", () -> {
            // The six 0s of the vote are others, and its SUM is right.
            int[] front = Model.join(Lab.first(17, Model.row(1, 2, 3, b)), new int[] {1, 2, 3, 4, 5, 6});
            int[] vote = Model.closed(2, front);
            BlockLog x = Lab.withRows(1, Model.row(2, 1, 0, 0), Model.row(2, 2, 0, a), vote, Model.row(4, 1, 7, a));
            x.prune(1);
            Lab.bytes("the vote", x, Lab.row(1, 2), vote);
        });
        Due.sentence("GROUPS of blocks above that height whose parent is that version's block", () -> {
            BlockLog x = Lab.withRows(1, Model.row(2, 1, 0, 0), Model.row(2, 1, 1, 0), Model.row(3, 0, 0, 0),
                Model.row(2, 2, 0, a), Model.row(2, 2, 1, a), Model.row(3, 5, 0, 0), Model.row(4, 1, 7, a));
            x.prune(1);
            Due.is("rows", 4, x.told(4));
            Lab.bytes("one", x, Lab.row(1, 1), Model.row(2, 2, 0, a));
            Lab.bytes("another", x, Lab.row(1, 2), Model.row(2, 2, 1, a));
            Lab.bytes("its change", x, Lab.row(1, 3), Model.row(3, 5, 0, 0));
        });
        Due.sentence("or a block that is kept by this", () -> {
            long other = Lab.blockDigest(1, 0, 0, 0);
            long above = Lab.blockDigest(2, other);
            BlockLog x = Lab.withRows(1, Model.row(2, 1, 0, 0), Model.row(2, 1, 1, 0), Model.row(3, 0, 0, 0),
                Model.row(2, 2, 0, a), Model.row(2, 2, 0, other), Model.row(2, 3, 0, b), Model.row(2, 3, 0, above),
                Model.row(2, 4, 0, c), Model.row(4, 1, 7, a));
            x.prune(1);
            Due.is("rows", 4, x.told(4));
            Lab.bytes("b", x, Lab.row(1, 1), Model.row(2, 2, 0, a));
            Lab.bytes("c", x, Lab.row(1, 2), Model.row(2, 3, 0, b));
            Lab.bytes("d", x, Lab.row(1, 3), Model.row(2, 4, 0, c));
        });
        Due.sentence("CERTIFICATES of blocks above that height", () -> {
            BlockLog x = Lab.withRows(1, Model.row(2, 1, 0, 0), Model.row(2, 2, 0, a), Model.row(2, 3, 0, b),
                Model.row(4, 1, 7, a), Model.row(4, 2, 11, b), Model.row(4, 3, 13, c));
            x.prune(2);
            Due.is("rows", 3, x.told(4));
            Lab.bytes("BASE", x, Lab.row(1, 0), Model.row(5, 2, 0, b));
            Lab.bytes("c", x, Lab.row(1, 1), Model.row(2, 3, 0, b));
            Lab.bytes("its certificate", x, Lab.row(1, 2), Model.row(4, 3, 13, c));
            Due.is("last", 3, x.version(0));
        });
        Due.sentence("the latest vote", () -> {
            BlockLog x = Lab.withRows(1, Model.row(2, 1, 0, 0), Model.row(1, 1, 0, a), Model.row(1, 1, 1, a), Model.row(4, 1, 7, a));
            x.prune(1);
            Due.is("rows", 2, x.told(4));
            Lab.bytes("the vote", x, Lab.row(1, 1), Model.row(1, 1, 1, a));
        });
        Due.sentence("the rows in order: the first one may stay", () -> {
            BlockLog x = Lab.withRows(1, Model.row(1, 1, 0, a), Model.row(2, 1, 0, 0), Model.row(4, 1, 7, a));
            x.prune(1);
            Due.is("rows", 2, x.told(4));
            Lab.bytes("the vote", x, Lab.row(1, 1), Model.row(1, 1, 0, a));
            BlockLog y = Lab.withRows(1, Model.row(2, 2, 0, a), Model.row(2, 1, 0, 0), Model.row(4, 1, 7, a));
            y.prune(1);
            Due.is("rows", 2, y.told(4));
            Lab.bytes("b", y, Lab.row(1, 1), Model.row(2, 2, 0, a));
        });
        Due.sentence("a block that is kept by this may stand behind", () -> {
            BlockLog x = Lab.withRows(1, Model.row(2, 4, 0, c), Model.row(2, 3, 0, b), Model.row(2, 2, 0, a),
                Model.row(2, 1, 0, 0), Model.row(4, 1, 7, a));
            x.prune(1);
            Due.is("rows", 4, x.told(4));
            Lab.bytes("d", x, Lab.row(1, 1), Model.row(2, 4, 0, c));
            Lab.bytes("c", x, Lab.row(1, 2), Model.row(2, 3, 0, b));
            Lab.bytes("b", x, Lab.row(1, 3), Model.row(2, 2, 0, a));
        });
        Due.sentence("above that height: not of that height, though its parent is that version's block", () -> {
            BlockLog x = Lab.withRows(1, Model.row(2, 1, 0, 0), Model.row(2, 1, 0, a), Model.row(4, 1, 7, a));
            x.prune(1);
            Due.is("rows", 1, x.told(4));
        });
        Due.sentence("(not what says nothing)", () -> {
            BlockLog x = Lab.withRows(1, Model.row(9, 1, 1, 1), Model.row(2, 1, 0, 0), Model.row(4, 2, 7, b), Model.row(5, 9, 0, 5),
                Model.row(3, 1, 0, 1), Model.row(4, 1, 7, a), Model.row(2, 2, 17, a), Model.row(4, 1, 7, a));
            Due.is("last", 1, x.version(0));
            x.prune(1);
            Due.is("rows", 1, x.told(4));
        });
    }

    private static void pruneHeads() {
        Due.sentence("Then the other head is written, byte by byte, GENERATION one more", () -> {
            for (int cut = 33; cut <= 49; cut++) {
                BlockLog x = new BlockLog(1);
                x.block(1, 0);
                x.certify(-1, 7);
                x.cut(cut);
                Due.is("prune with " + cut, OFF, x.prune(1));
                Lab.bytes("written", x, 16, Lab.first(cut - 33, Model.head(2)));
                Lab.bytes("not yet", x, 16 + cut - 33, new int[49 - cut]);
                Lab.bytes("the head that was in use", x, 0, Model.head(1));
                x.open();
                Due.is("area behind " + cut, cut == 49 ? 1 : 0, x.told(2));
            }
        });
        Due.sentence("GENERATION one more, behind the greatest", () -> {
            BlockLog x = withHeads(Model.head(-1), new int[16]);
            x.open();
            Lab.grow(x, 0, NONE);
            Due.is("prune", 0, x.prune(1));
            Due.is("generation", 0, x.told(3));
            Lab.bytes("head 1", x, 16, Model.head(0));
            BlockLog y = withHeads(Model.head(Integer.MAX_VALUE), new int[16]);
            y.open();
            Lab.grow(y, 0, NONE);
            y.prune(1);
            Due.is("generation", Integer.MIN_VALUE, y.told(3));
            Due.is("open", 1, Lab.reopen(y));
            Due.is("area", 1, y.told(2));
        });
        Due.sentence("then the head that was in use is erased", () -> {
            BlockLog x = new BlockLog(1);
            x.block(1, 0);
            x.certify(-1, 7);
            int acts = x.told(1);
            x.cut(50);
            Due.is("prune", 0, x.prune(1));
            Due.is("acts", acts + 50, x.told(1));
            Lab.bytes("it", x, 0, new int[16]);
        });
        Due.sentence("Then pages with a leaf that is not NAMED are erased, in order", () -> {
            for (int cut = 50; cut <= 53; cut++) {
                BlockLog x = new BlockLog(4);
                for (int p = 0; p < 3; p++) {
                    Lab.leaf(x, p);
                }
                x.block(1, 0);
                x.certify(-1, 7);
                x.cut(cut);
                Due.is("prune", cut < 53 ? OFF : 3, x.prune(1));
                for (int p = 0; p < 3; p++) {
                    Due.is("page " + p, cut > 50 + p ? 0 : 1, x.byteAt(Lab.page(p)));
                }
            }
        });
        Due.sentence("pages that are BAD have no leaf: they stay", () -> {
            BlockLog x = new BlockLog(2);
            Lab.leaf(x, 1);
            Lab.leaf(x, 2);
            x.block(1, 0);
            x.certify(-1, 7);
            Lab.damage(x, Lab.page(0) + 1, 8);
            Due.is("prune", 1, x.prune(1));
            Due.is("asked", 128, x.asked(0));
            Due.is("free", 1, x.told(5));
        });
        Due.sentence("NAMED: in a kept version, or in a CHANGE of a GROUP that is a BLOCK", () -> {
            BlockLog x = new BlockLog(5);
            for (int p = 0; p < 5; p++) {
                Lab.leaf(x, p);
            }
            x.change(0, 0);
            x.change(0, 1);
            x.block(1, 0);
            x.certify(-1, 7);
            x.change(0, 2);
            x.block(2, -1);
            x.change(1, 3);
            x.block(1, 0);
            boolean[] before = {true, true, true, true, false};
            for (int p = 0; p < 5; p++) {
                Due.is("page " + p, before[p], x.named(p));
            }
            Due.is("written over in its block, of a block that goes, in none", 3, x.prune(1));
            boolean[] behind = {false, true, true, false, false};
            for (int p = 0; p < 5; p++) {
                Due.is("page " + p + " behind it", behind[p], x.named(p));
            }
        });
    }

    private static void named() {
        Due.sentence("NAMED in a kept version, whichever was asked for last", () -> {
            BlockLog x = new BlockLog(1);
            Lab.leaf(x, 1);
            Lab.grow(x, 0, 0);
            x.prune(1);
            Lab.grow(x, 0, NONE);
            Due.is("the last version", 0, x.slot(2, 0));
            Due.is("BASE has it", true, x.named(0));
            Due.is("the base", Lab.leafDigest(1), x.slot(1, 0));
            Due.is("prune", 1, x.prune(2));
            Due.is("none has it", false, x.named(0));
        });
        Due.sentence("NAMED (0 is none)", () -> {
            // A leaf that was searched for, since its digest is 0.
            int[] leaf = {219, 223, 222, 156, 120, 254, 150, 234, 91, 224, 17, 19, 154, 121, 33, 215};
            BlockLog x = new BlockLog(1);
            Lab.leaf(x, leaf);
            x.change(0, 0);
            x.block(1, 0);
            Due.is("in a block", false, x.named(0));
            x.certify(-1, 7);
            Due.is("in a version", false, x.named(0));
            Due.is("prune", 1, x.prune(1));
        });
    }

    // ---- A SNAPSHOT

    private static void snapshots() {
        Due.sentence("A SNAPSHOT: height, its block's digest, how many slots; slot, how many, the leaf; the SUM by 5", () -> {
            BlockLog x = new BlockLog(16);
            int[] leaf = new int[16];
            int[] body = {};
            for (int s = 0; s < 16; s++) {
                leaf[0] = s;
                leaf[15] = 200;
                Lab.leaf(x, leaf);
                body = Model.join(body, new int[] {s, 16}, leaf);
            }
            for (int s = 0; s < 16; s++) {
                x.change(s, s);
                if (s == 7) {
                    x.block(1, 0);
                    x.certify(-1, 7);
                }
            }
            x.block(2, -1);
            x.certify(-11, 7);
            int[] want = Lab.closed(Model.join(Model.number(2, 4), Model.number(x.digest(10), 8), new int[] {16}, body));
            Due.is("the longest", 13 + 16 * 18 + 8, x.out(2));
            for (int i = 0; i < want.length; i++) {
                Due.is("at " + i, want[i], x.at(i));
            }
        });
        Due.sentence("a SNAPSHOT without a leaf", () -> {
            BlockLog x = new BlockLog(1);
            Lab.grow(x, 0, NONE);
            Due.is("out", 21, x.out(1));
            int[] want = Lab.closed(Model.join(Model.number(1, 4), Model.number(x.digest(0), 8), new int[] {0}));
            for (int i = 0; i < want.length; i++) {
                Due.is("at " + i, want[i], x.at(i));
            }
        });
    }
}
