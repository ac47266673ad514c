/**
 * A test for each sentence of the promises that names an edge at which a call still answers (where it is refused:
 * RefusedCallsTest), and for what the power's going leaves behind in each call.
 */
public final class EdgesOfCallsTest {
    private static final int NONE = -1, FULL = -2, OFF = -4, LOST = -5, UNKNOWN = -6, LATE = -7, OTHER = -9, WRONG = -10;

    public static void main(String[] args) {
        promise1();
        promises2to4();
        promise5();
        promise6();
        promise7();
        promise8();
        promise9();
        promise10();
        promise11();
        promises12and13();
        promises14to16();
        promise17();
        promise18();
        promise19();
        promise19wrong();
        promise20();
        promise21();
        promise22();
        promises23and24();
        promises25and26();
        promise27();
        thePowerGoes();
        Due.end();
    }

    private static void promise1() {
        Due.sentence("1: so many pages, 1 .. 65536", () -> {
            for (int pages : new int[] {1, 2, 65535, 65536}) {
                BlockLog x = new BlockLog(pages);
                Due.is("free pages", pages, x.told(5));
                Due.is("the last byte", 0, x.byteAt(8224 + 26 * pages - 1));
                Due.bounds("behind it", () -> x.byteAt(8224 + 26 * pages));
            }
        });
        Due.sentence("1: too few: 1", () -> {
            for (int pages : new int[] {0, -1, -65536, Integer.MIN_VALUE}) {
                BlockLog x = new BlockLog(pages);
                Due.is("free pages", 1, x.told(5));
                Due.is("leaf", 0, Lab.leaf(x, 1));
                Due.is("leaf", FULL, Lab.leaf(x, 2));
            }
        });
        Due.sentence("1: too many: 65536", () -> {
            for (int pages : new int[] {65537, 1000000, Integer.MAX_VALUE}) {
                BlockLog x = new BlockLog(pages);
                Due.is("free pages", 65536, x.told(5));
                Due.bounds("behind the last byte", () -> x.byteAt(8224 + 26 * 65536));
                Due.is("the last page", NONE, x.byteOf(65535, 0));
                Due.bounds("a page more", () -> x.byteOf(65536, 0));
            }
        });
        Due.sentence("1: the last one of the most pages", () -> {
            BlockLog x = new BlockLog(65536);
            x.off();
            Lab.overwrite(x, Lab.page(65535), Model.page(new int[] {3, 4}));
            x.open();
            Due.is("page", 65535, x.page(Lab.leafDigest(3, 4)));
            Due.is("the same", 65535, Lab.leaf(x, 3, 4));
            Due.is("change", 1, x.change(0, 65535));
            Due.is("byteOf", 4, x.byteOf(65535, 1));
            Due.is("named", false, x.named(65535));
            x.block(1, 0);
            Due.is("named", true, x.named(65535));
        });
    }

    private static void promises2to4() {
        Due.sentence("2: the n lowest bytes of w, the highest of them first", () -> {
            long w = 0x8192A3B4C5D6E7F8L;
            int[] bytes = {0x81, 0x92, 0xA3, 0xB4, 0xC5, 0xD6, 0xE7, 0xF8};
            for (int n = 1; n <= 8; n++) {
                BlockLog x = new BlockLog(1);
                Due.is("feed", n, x.feed(w, n));
                for (int i = 0; i < n; i++) {
                    Due.is("at", bytes[8 - n + i], x.at(i));
                }
                int many = n;
                Due.bounds("behind them", () -> x.at(many));
            }
        });
        Due.sentence("2: behind the tape: how many it has", () -> {
            BlockLog x = new BlockLog(1);
            Due.is("feed", 1, x.feed(1, 1));
            Due.is("feed", 9, x.feed(2, 8));
            Due.is("at", 1, x.at(0));
            Due.is("at", 2, x.at(8));
        });
        Due.sentence("2: 400", () -> {
            BlockLog x = new BlockLog(1);
            for (int i = 1; i <= 50; i++) {
                Due.is("feed", 8 * i, x.feed(-i, 8));
            }
            Due.is("the last one", 256 - 50, x.at(399));
            Due.bounds("behind it", () -> x.at(400));
            Due.argument("401", () -> x.feed(0, 1));
            Due.is("wipe", 400, x.wipe());
            Due.is("feed", 8, x.feed(0, 8));
        });
        Due.sentence("2, 3, 4: the tape needs no power", () -> {
            BlockLog x = new BlockLog(1);
            x.feed(7, 1);
            x.off();
            Due.is("feed", 2, x.feed(8, 1));
            Due.is("at", 7, x.at(0));
            Due.is("wipe", 2, x.wipe());
        });
        Due.sentence("3: the tape is empty then", () -> {
            BlockLog x = new BlockLog(1);
            Due.is("an empty one", 0, x.wipe());
            x.feed(1, 3);
            Due.is("three", 3, x.wipe());
            Due.bounds("at 0", () -> x.at(0));
            Due.is("again", 0, x.wipe());
        });
        Due.sentence("4: byte i of the tape is 0 .. 255", () -> {
            BlockLog x = new BlockLog(1);
            Lab.feed(x, 0, 127, 128, 255);
            int[] want = {0, 127, 128, 255};
            for (int i = 0; i < 4; i++) {
                Due.is("at", want[i], x.at(i));
            }
        });
    }

    private static void promise5() {
        Due.sentence("5: the tape has 1 .. 16 bytes", () -> {
            BlockLog x = new BlockLog(16);
            for (int n = 1; n <= 16; n++) {
                Lab.feed(x, new int[n]);
                Due.is(n + " bytes of 0", n - 1, x.leaf());
                Due.is("how many", n, x.byteAt(Lab.page(n - 1)));
            }
            Due.is("free pages", 0, x.told(5));
        });
        Due.sentence("5: and is empty then", () -> {
            BlockLog x = new BlockLog(1);
            Lab.leaf(x, 5);
            Due.is("wipe", 0, x.wipe());
            Lab.leaf(x, 5);
            Due.is("wipe behind the same", 0, x.wipe());
        });
        Due.sentence("5: that of the same bytes if there is one", () -> {
            BlockLog x = new BlockLog(2);
            Lab.leaf(x, 5);
            Lab.leaf(x, 5, 0);
            int acts = x.told(1);
            Due.is("the same, though there is no FREE one", 0, Lab.leaf(x, 5));
            Due.is("the same", 1, Lab.leaf(x, 5, 0));
            Due.is("no acts", acts, x.told(1));
            Due.is("a 0 more is another", FULL, Lab.leaf(x, 5, 0, 0));
        });
        Due.sentence("5: the same bytes are looked for ahead of a FREE page", () -> {
            BlockLog x = new BlockLog(3);
            x.off();
            Lab.overwrite(x, Lab.page(2), Model.page(new int[] {8}));
            x.open();
            Due.is("leaf", 2, Lab.leaf(x, 8));
        });
        Due.sentence("5: of two pages with the same bytes the first one", () -> {
            BlockLog x = new BlockLog(4);
            x.off();
            Lab.overwrite(x, Lab.page(1), Model.page(new int[] {8}));
            Lab.overwrite(x, Lab.page(3), Model.page(new int[] {8}));
            x.open();
            Due.is("leaf", 1, Lab.leaf(x, 8));
            Due.is("page", 1, x.page(Lab.leafDigest(8)));
        });
        Due.sentence("5: else the first FREE one", () -> {
            BlockLog x = new BlockLog(4);
            for (int p = 0; p < 4; p++) {
                Lab.leaf(x, p);
            }
            x.off();
            Lab.overwrite(x, Lab.page(3), new int[26]);
            Lab.overwrite(x, Lab.page(1), new int[26]);
            x.open();
            Due.is("leaf", 1, Lab.leaf(x, 9));
            Due.is("leaf", 3, Lab.leaf(x, 8));
            Due.is("leaf", FULL, Lab.leaf(x, 7));
        });
        Due.sentence("5: a BAD page is not FREE", () -> {
            BlockLog x = new BlockLog(2);
            Lab.leaf(x, 1);
            Lab.damage(x, Lab.page(0) + 1, 4);
            Due.is("leaf", 1, Lab.leaf(x, 1));
            Due.is("leaf", FULL, Lab.leaf(x, 2));
        });
    }

    private static void promise6() {
        Due.sentence("6: slots 0 .. 15, NONE and pages", () -> {
            BlockLog x = new BlockLog(2);
            Lab.leaf(x, 1);
            Lab.leaf(x, 2);
            Due.is("slot 0, page 0", 1, x.change(0, 0));
            Due.is("slot 15, the last page", 2, x.change(15, 1));
            Due.is("to none", 3, x.change(15, NONE));
            Due.is("the same again", 4, x.change(15, NONE));
        });
        Due.sentence("6: there are 8", () -> {
            BlockLog x = new BlockLog(1);
            for (int i = 1; i <= 8; i++) {
                Due.is("change", i, x.change(i, NONE));
            }
            Due.is("nine", FULL, x.change(0, NONE));
            Due.is("collected", 8, x.told(8));
            Due.is("block", 0, x.block(1, 0));
            Due.is("rows", 9, x.told(4));
            Due.is("then one again", 1, x.change(0, NONE));
        });
        Due.sentence("6: no act, no row", () -> {
            BlockLog x = new BlockLog(1);
            x.cut(0);
            Due.is("change", 1, x.change(0, NONE));
            Due.is("rows", 0, x.told(4));
            Due.is("acts", 0, x.told(1));
        });
        Due.sentence("6: a leaf that is RIGHT, in NEED too", () -> {
            BlockLog x = new BlockLog(1);
            Lab.leaf(x, 1);
            x.block(1, 0);
            Lab.damage(x, 32 + 4, 1);
            Due.is("change", 1, x.change(0, 0));
        });
    }

    private static void promise7() {
        Due.sentence("7: height 1 .. 1000000", () -> {
            BlockLog x = new BlockLog(1);
            Due.is("1", 0, x.block(1, 0));
            BlockLog y = new BlockLog(1);
            Lab.feed(y, Lab.snapshot(999999, 77, 0));
            y.in();
            Due.is("1000000", 1, y.block(1000000, 77));
            Due.argument("1000001", () -> y.block(1000001, -2));
            Due.is("its digest", Lab.blockDigest(1000000, 77), y.digest(1));
        });
        Due.sentence("7: what was collected (which is nothing then)", () -> {
            BlockLog x = new BlockLog(1);
            Due.is("nothing", 0, x.block(1, 0));
            Lab.bytes("BLOCK", x, 32, Model.row(2, 1, 0, 0));
            x.change(3, NONE);
            x.change(2, NONE);
            Due.is("two", 1, x.block(1, 0));
            Due.is("nothing then", 0, x.told(8));
            Lab.bytes("BLOCK", x, Lab.row(0, 1), Model.row(2, 1, 2, 0));
            Lab.bytes("in order", x, Lab.row(0, 2), Model.row(3, 3, 0, 0));
            Lab.bytes("in order", x, Lab.row(0, 3), Model.row(3, 2, 0, 0));
        });
        Due.sentence("7: that of the same block (by digest), if there is one", () -> {
            BlockLog x = new BlockLog(1);
            x.block(1, 0);
            x.change(0, NONE);
            x.block(1, 0);
            int acts = x.told(1);
            x.change(0, NONE);
            Due.is("the same", 1, x.block(1, 0));
            Due.is("nothing is collected then", 0, x.told(8));
            Due.is("the same", 0, x.block(1, 0));
            Due.is("no acts", acts, x.told(1));
            Due.is("the same changes above another", 3, x.block(2, -1));
        });
        Due.sentence("7: digests of leaves are as change() found them", () -> {
            BlockLog x = new BlockLog(2);
            Lab.leaf(x, 1);
            Lab.grow(x, 0, NONE);
            x.change(1, 0);
            Due.is("the leaf goes", 1, x.prune(1));
            Due.is("block", 1, x.block(2, -1));
            Lab.bytes("CHANGE", x, Lab.row(1, 2), Model.row(3, 1, 0, Lab.leafDigest(1)));
        });
        Due.sentence("7: the parent is a block, BASE's block, or 0 without a BASE", () -> {
            BlockLog x = new BlockLog(1);
            Due.is("0", 0, x.block(1, 0));
            Due.is("a block", 1, x.block(2, Lab.blockDigest(1, 0)));
            Due.is("one that is not certified", 2, x.block(3, -2));
            BlockLog y = new BlockLog(1);
            Lab.feed(y, Lab.snapshot(5, 77, 0));
            y.in();
            Due.is("BASE's block", 1, y.block(6, 77));
            Due.is("BASE's block by its row", 1, y.block(6, -1));
            Due.is("a block above it", 2, y.block(7, -2));
            Due.is("0", UNKNOWN, y.block(1, 0));
        });
        Due.sentence("7: height is one more than the parent's (that of 0 is 0)", () -> {
            BlockLog x = new BlockLog(1);
            Due.is("2 above 0", WRONG, x.block(2, 0));
            Due.is("1 above 0", 0, x.block(1, 0));
            Due.is("1 above 1", WRONG, x.block(1, -1));
            Due.is("3 above 1", WRONG, x.block(3, -1));
            Due.is("2 above 1", 1, x.block(2, -1));
        });
        Due.sentence("7: the area has just a place for it", () -> {
            for (int changes = 0; changes <= 8; changes++) {
                BlockLog x = new BlockLog(1);
                x.block(1, 0);
                Lab.fillRows(x, 127 - changes);
                for (int i = 0; i < changes; i++) {
                    x.change(15 - i, NONE);
                }
                Due.is("block with " + changes, 127 - changes, x.block(2, -1));
                Due.is("rows", 128, x.told(4));
                Due.is("the same block", 127 - changes, sameAgain(x, changes));
                Due.is("another", FULL, x.block(3, -1 - (127 - changes)));
            }
        });
        Due.sentence("7: the area lacks one place", () -> {
            for (int changes = 0; changes <= 8; changes++) {
                BlockLog x = new BlockLog(1);
                x.block(1, 0);
                Lab.fillRows(x, 128 - changes);
                for (int i = 0; i < changes; i++) {
                    x.change(15 - i, NONE);
                }
                Due.is("block with " + changes, FULL, x.block(2, -1));
                Due.is("still collected", changes, x.told(8));
                Due.is("rows", 128 - changes, x.told(4));
            }
        });
    }

    private static int sameAgain(BlockLog x, int changes) {
        for (int i = 0; i < changes; i++) {
            x.change(15 - i, NONE);
        }
        return x.block(2, -1);
    }

    private static void promise8() {
        Due.sentence("8: a BLOCK or BASE; 0 for others", () -> {
            BlockLog x = new BlockLog(1);
            Lab.feed(x, Lab.snapshot(5, 77, 1));
            x.in();
            x.block(6, 77);
            x.vote(6, 0, -3);
            x.certify(-3, 7);
            long[] want = {77, 0, Lab.blockDigest(6, 77), 0, 0};
            for (int r = 0; r < want.length; r++) {
                Due.is("row " + r, want[r], x.digest(r));
            }
            Due.bounds("row 5", () -> x.digest(5));
        });
        Due.sentence("8: 0 in NEED", () -> {
            BlockLog x = new BlockLog(1);
            x.block(1, 0);
            x.block(2, -1);
            Lab.damage(x, Lab.row(0, 1) + 4, 1);
            Due.is("a RIGHT row", 0, x.digest(0));
            Due.is("the BAD row", 0, x.digest(1));
        });
        Due.sentence("8: there is no such row: the last one of 128", () -> {
            BlockLog x = new BlockLog(1);
            x.block(1, 0);
            Lab.fillRows(x, 127);
            x.block(2, -1);
            Due.is("row 127", Lab.blockDigest(2, Lab.blockDigest(1, 0)), x.digest(127));
            Due.bounds("row 128", () -> x.digest(128));
        });
    }

    private static void promise9() {
        Due.sentence("9: height 1 .. 1000000, round 0 .. 1000000", () -> {
            BlockLog x = new BlockLog(1);
            Lab.feed(x, Lab.snapshot(999999, 77, 0));
            x.in();
            x.block(1000000, 77);
            Due.is("round 0", 2, x.vote(1000000, 0, -2));
            Due.is("round 1000000", 3, x.vote(1000000, 1000000, -2));
            Lab.bytes("VOTE", x, Lab.row(0, 3), Model.row(1, 1000000, 1000000, x.digest(1)));
            BlockLog y = new BlockLog(1);
            y.block(1, 0);
            Due.is("height 1", 1, y.vote(1, 0, -1));
        });
        Due.sentence("9: that of the latest vote, if it is the same", () -> {
            BlockLog x = new BlockLog(1);
            x.block(1, 0);
            x.vote(1, 0, -1);
            int acts = x.told(1);
            Due.is("the same", 1, x.vote(1, 0, -1));
            Due.is("the same behind an open", 1, sameBehindOpen(x));
            Due.is("no acts", acts, x.told(1));
        });
        Due.sentence("9: an older vote is not the latest one", () -> {
            BlockLog x = new BlockLog(1);
            x.block(1, 0);
            x.vote(1, 0, -1);
            x.vote(1, 1, -1);
            Due.is("the older one", LATE, x.vote(1, 0, -1));
            Due.is("the latest one", 2, x.vote(1, 1, -1));
        });
        Due.sentence("9: the latest vote's height is greater, or the same with a round that is not less", () -> {
            BlockLog x = new BlockLog(1);
            x.block(1, 0);
            x.block(2, -1);
            x.change(0, NONE);
            x.block(2, -1);
            x.vote(2, 5, -2);
            Due.is("a lesser height, a greater round", LATE, x.vote(1, 6, -1));
            Due.is("the same height, a lesser round", LATE, x.vote(2, 4, -2));
            Due.is("the same height and round, another block", LATE, x.vote(2, 5, -3));
            Due.is("the same height, one round more, another block", 5, x.vote(2, 6, -3));
            x.block(3, -2);
            Due.is("a greater height, a lesser round", 7, x.vote(3, 0, -7));
        });
        Due.sentence("9: no such block of that height is there", () -> {
            BlockLog x = new BlockLog(1);
            x.block(1, 0);
            x.block(2, -1);
            Due.is("one below", UNKNOWN, x.vote(1, 0, -2));
            Due.is("one above", UNKNOWN, x.vote(2, 0, -1));
            Due.is("its own", 2, x.vote(2, 0, -2));
        });
        Due.sentence("9: the last place, then FULL", () -> {
            BlockLog x = new BlockLog(1);
            x.block(1, 0);
            Lab.fillRows(x, 127);
            Due.is("the last place", 127, x.vote(1, 500, -1));
            Due.is("the same", 127, x.vote(1, 500, -1));
            Due.is("no more", FULL, x.vote(1, 501, -1));
        });
    }

    private static int sameBehindOpen(BlockLog x) {
        Lab.reopen(x);
        return x.vote(1, 0, -1);
    }

    private static void promise10() {
        Due.sentence("10: whether a row is a VOTE", () -> {
            BlockLog x = new BlockLog(1);
            x.change(0, NONE);
            x.block(1, 0);
            x.vote(1, 0, -1);
            x.certify(-1, 7);
            boolean[] want = {false, false, true, false};
            for (int r = 0; r < 4; r++) {
                Due.is("row " + r, want[r], x.sent(r));
            }
            x.prune(1);
            Due.is("BASE", false, x.sent(0));
            Due.is("the latest vote", true, x.sent(1));
        });
        Due.sentence("10: that is RIGHT", () -> {
            BlockLog x = new BlockLog(1);
            x.block(1, 0);
            x.vote(1, 0, -1);
            x.vote(1, 1, -1);
            int[] body = Lab.read(x, Lab.row(0, 1), 23);
            Lab.damage(x, Lab.row(0, 1) + 8, 4);
            Due.is("BAD", false, x.sent(1));
            Due.is("RIGHT, in NEED", true, x.sent(2));
            Lab.feed(x, body);
            x.mend(1);
            Due.is("mended", true, x.sent(1));
        });
        Due.sentence("10: a vote whose last byte alone is missing is RIGHT (and so may have been sent)", () -> {
            for (int cut = 29; cut <= 32; cut++) {
                BlockLog x = new BlockLog(1);
                x.block(1, 0);
                x.cut(cut);
                Due.is("vote", cut < 32 ? OFF : 1, x.vote(1, 0, -1));
                Due.is("open", cut < 31 ? 1 : 2, x.open());
                if (cut >= 31) {
                    Due.is("sent", true, x.sent(1));
                }
            }
        });
    }

    private static void promise11() {
        Due.sentence("11: three signers of 0 .. 15", () -> {
            for (int signers : new int[] {7, 11, 13, 14, 15}) {
                BlockLog x = new BlockLog(1);
                x.block(1, 0);
                Due.is("signers " + signers, 1, x.certify(-1, signers));
                Lab.bytes("CERTIFICATE", x, Lab.row(0, 1), Model.row(4, 1, signers, x.digest(0)));
            }
        });
        Due.sentence("11: without writing, if it has one", () -> {
            BlockLog x = new BlockLog(1);
            Lab.grow(x, 0, NONE);
            Lab.grow(x, 0, NONE);
            int acts = x.told(1);
            Due.is("the first", 1, x.certify(-1, 15));
            Due.is("the last", 2, x.certify(-4, 7));
            Due.is("no acts", acts, x.told(1));
        });
        Due.sentence("11: without writing also when it is full", () -> {
            BlockLog x = new BlockLog(1);
            x.block(1, 0);
            x.block(2, -1);
            Lab.fillRows(x, 127);
            Due.is("the last place", 1, x.certify(-1, 7));
            Due.is("it has one", 1, x.certify(-1, 7));
            Due.is("no more", FULL, x.certify(-2, 7));
        });
        Due.sentence("11: its height is one above the last version's, and its parent is that version's block", () -> {
            BlockLog x = new BlockLog(1);
            x.block(1, 0);
            x.change(0, NONE);
            x.block(1, 0);
            x.block(2, -1);
            x.block(2, -2);
            Due.is("two above", OTHER, x.certify(-4, 7));
            Due.is("of version 0 without BASE: 0", 1, x.certify(-2, 7));
            Due.is("the same height", OTHER, x.certify(-1, 7));
            Due.is("another parent", OTHER, x.certify(-4, 7));
            Due.is("the parent", 2, x.certify(-5, 7));
        });
        Due.sentence("11: above BASE", () -> {
            BlockLog x = new BlockLog(1);
            Lab.feed(x, Lab.snapshot(5, 77, 0));
            x.in();
            x.block(6, 77);
            Due.is("certify", 6, x.certify(-2, 7));
            Due.is("last", 6, x.version(0));
        });
    }

    private static void promises12and13() {
        Due.sentence("12: the last version (0), THE BASE'S height (1)", () -> {
            BlockLog x = new BlockLog(1);
            Due.is("last", 0, x.version(0));
            Due.is("base", 0, x.version(1));
            x.block(1, 0);
            Due.is("not certified", 0, x.version(0));
            x.certify(-1, 7);
            Due.is("last", 1, x.version(0));
            Due.is("base", 0, x.version(1));
            x.prune(1);
            Due.is("last", 1, x.version(0));
            Due.is("base", 1, x.version(1));
        });
        Due.sentence("12: 0 in NEED", () -> {
            BlockLog x = new BlockLog(1);
            Lab.feed(x, Lab.snapshot(1000000, 77, 0));
            x.in();
            Due.is("last", 1000000, x.version(0));
            Lab.damage(x, 32 + 4, 1);
            Due.is("last", 0, x.version(0));
            Due.is("base", 0, x.version(1));
        });
        Due.sentence("13: slots 0 and 15 of the first and the last version", () -> {
            BlockLog x = new BlockLog(2);
            Lab.leaf(x, 1);
            Lab.leaf(x, 2);
            Lab.grow(x, 0, 0);
            Lab.grow(x, 15, 1);
            Lab.grow(x, 0, NONE);
            long[][] want = {{0, 0}, {Lab.leafDigest(1), 0}, {Lab.leafDigest(1), Lab.leafDigest(2)}, {0, Lab.leafDigest(2)}};
            for (int v = 0; v < 4; v++) {
                Due.is("slot 0 of " + v, want[v][0], x.slot(v, 0));
                Due.is("slot 15 of " + v, want[v][1], x.slot(v, 15));
            }
            x.prune(2);
            Due.argument("version 1", () -> x.slot(1, 0));
            Due.is("slot 0 of 2", want[2][0], x.slot(2, 0));
            Due.is("slot 15 of 3", want[3][1], x.slot(3, 15));
            Due.argument("version 4", () -> x.slot(4, 0));
        });
        Due.sentence("13: the digest, also when the leaf is in no page", () -> {
            BlockLog x = new BlockLog(1);
            Lab.leaf(x, 1);
            Lab.grow(x, 0, 0);
            Lab.damage(x, Lab.page(0) + 1, 4);
            Due.is("slot", Lab.leafDigest(1), x.slot(1, 0));
        });
    }

    private static void promises14to16() {
        Due.sentence("14: the first page with a RIGHT leaf; NONE", () -> {
            BlockLog x = new BlockLog(3);
            Due.is("an empty disk", NONE, x.page(0));
            Lab.leaf(x, 1);
            Lab.leaf(x, 2);
            Due.is("the second", 1, x.page(Lab.leafDigest(2)));
            Due.is("none", NONE, x.page(Lab.leafDigest(3)));
            Due.is("0", NONE, x.page(0));
            Due.is("no row is meant", NONE, x.page(-1));
            Lab.damage(x, Lab.page(1) + 25, 1);
            Due.is("another last byte", 1, x.page(Lab.leafDigest(2)));
            Lab.damage(x, Lab.page(1) + 2, 1);
            Due.is("a BAD one", NONE, x.page(Lab.leafDigest(2)));
        });
        Due.sentence("15: byte i (0 .. 15); NONE when it has no such byte", () -> {
            BlockLog x = new BlockLog(2);
            int[] most = {255, 0, 2, 3, 4, 5, 6, 7, 8, 9, 10, 11, 12, 13, 14, 128};
            Lab.leaf(x, most);
            Lab.leaf(x, 0);
            for (int i = 0; i < 16; i++) {
                Due.is("byte " + i, most[i], x.byteOf(0, i));
                Due.is("of one", i == 0 ? 0 : NONE, x.byteOf(1, i));
            }
        });
        Due.sentence("15: NONE when it is not RIGHT", () -> {
            BlockLog x = new BlockLog(2);
            Due.is("FREE", NONE, x.byteOf(1, 0));
            Lab.leaf(x, 7);
            Lab.damage(x, Lab.page(0) + 20, 1);
            Due.is("BAD", NONE, x.byteOf(0, 0));
        });
        Due.sentence("16: false when none is RIGHT there", () -> {
            BlockLog x = new BlockLog(2);
            Lab.leaf(x, 7);
            x.change(0, 0);
            x.block(1, 0);
            Due.is("RIGHT", true, x.named(0));
            Due.is("FREE", false, x.named(1));
            Lab.damage(x, Lab.page(0) + 1, 1);
            Due.is("BAD", false, x.named(0));
        });
        Due.sentence("16: false in NEED", () -> {
            BlockLog x = new BlockLog(1);
            Lab.leaf(x, 7);
            x.change(0, 0);
            x.block(1, 0);
            x.vote(1, 0, -1);
            Lab.damage(x, Lab.row(0, 2) + 4, 1);
            Due.is("named", false, x.named(0));
        });
    }

    private static void promise17() {
        Due.sentence("17: above THE BASE'S height, up to the last version's", () -> {
            for (int height = 1; height <= 3; height++) {
                BlockLog x = new BlockLog(1);
                for (int i = 0; i < 3; i++) {
                    Lab.grow(x, 0, NONE);
                }
                Due.is("prune", 0, x.prune(height));
                Due.is("base", height, x.version(1));
                Due.is("last", 3, x.version(0));
                Due.is("rows", 1 + 3 * (3 - height), x.told(4));
            }
        });
        Due.sentence("17: one above a BASE", () -> {
            BlockLog x = new BlockLog(1);
            Lab.feed(x, Lab.snapshot(5, 77, 1));
            x.in();
            x.block(6, 77);
            x.certify(-3, 7);
            Due.argument("5", () -> x.prune(5));
            Due.argument("7", () -> x.prune(7));
            Due.is("6", 0, x.prune(6));
        });
        Due.sentence("17: how many pages were erased", () -> {
            for (int kept = 0; kept <= 3; kept++) {
                BlockLog x = new BlockLog(3);
                for (int p = 0; p < 3; p++) {
                    Lab.leaf(x, p);
                    if (p < kept) {
                        x.change(p, p);
                    }
                }
                x.block(1, 0);
                x.certify(-1, 7);
                Due.is("prune", 3 - kept, x.prune(1));
                Due.is("free", 3 - kept, x.told(5));
            }
        });
        Due.sentence("17: what is collected is not NAMED, and stays collected", () -> {
            BlockLog x = new BlockLog(1);
            Lab.leaf(x, 1);
            x.block(1, 0);
            x.certify(-1, 7);
            x.change(0, 0);
            Due.is("prune", 1, x.prune(1));
            Due.is("collected", 1, x.told(8));
        });
        Due.sentence("17: a full area (more than 128 rows can't come: what goes is more than what comes)", () -> {
            BlockLog x = new BlockLog(16);
            Lab.feed(x, Lab.snapshot(5, 77, 16));
            x.in();
            x.block(6, 77);
            x.vote(6, 0, -18);
            for (int k = 0; x.told(4) < 127; k++) {
                x.change(k % 16, k / 16);
                x.block(7, -18);
            }
            Due.is("the last row", 6, x.certify(-18, 7));
            Due.is("rows", 128, x.told(4));
            Due.is("prune", 0, x.prune(6));
            Due.is("rows", 126, x.told(4));
        });
    }

    private static void promise18() {
        Due.sentence("18: in place of what was there", () -> {
            BlockLog x = new BlockLog(1);
            Lab.grow(x, 0, NONE);
            for (int i = 0; i < 50; i++) {
                x.feed(-1, 8);
            }
            Due.is("out", 21, x.out(1));
            Due.is("wipe", 21, x.wipe());
        });
        Due.sentence("18: the first version that is kept (but 0), and the last", () -> {
            BlockLog x = new BlockLog(1);
            for (int i = 0; i < 3; i++) {
                Lab.grow(x, 0, NONE);
            }
            Due.argument("0", () -> x.out(0));
            Due.is("1", 21, x.out(1));
            Due.is("its height", 1, x.at(3));
            Due.is("3", 21, x.out(3));
            Due.is("its height", 3, x.at(3));
            Due.argument("4", () -> x.out(4));
            x.prune(2);
            Due.argument("1", () -> x.out(1));
            Due.is("BASE's", 21, x.out(2));
            Due.is("its height", 2, x.at(3));
        });
        Due.sentence("18: no acts", () -> {
            BlockLog x = new BlockLog(1);
            Lab.grow(x, 0, NONE);
            x.cut(0);
            Due.is("out", 21, x.out(1));
            Due.is("on", 1, x.told(0));
        });
        Due.sentence("18: how many slots have a leaf: a digest of 0 is none", () -> {
            // A leaf that was searched for, since its digest is 0.
            int[] leaf = {219, 223, 222, 156, 120, 254, 150, 234, 91, 224, 17, 19, 154, 121, 33, 215};
            BlockLog x = new BlockLog(2);
            Lab.leaf(x, leaf);
            Lab.leaf(x, 5);
            x.change(0, 0);
            x.change(1, 1);
            x.block(1, 0);
            x.certify(-1, 7);
            Due.is("out", 13 + 3 + 8, x.out(1));
            Due.is("one slot", 1, x.at(12));
            Due.is("slot 1", 1, x.at(13));
        });
        Due.sentence("18: a leaf in another page that is RIGHT", () -> {
            BlockLog x = new BlockLog(2);
            Lab.leaf(x, 1);
            Lab.grow(x, 0, 0);
            Lab.damage(x, Lab.page(0) + 1, 4);
            Due.is("in none", UNKNOWN, x.out(1));
            Lab.leaf(x, 1);
            Due.is("in another", 24, x.out(1));
        });
    }

    private static void promise19() {
        Due.sentence("19: height 1 .. 1000000", () -> {
            for (int height : new int[] {1, 2, 999999, 1000000}) {
                BlockLog x = new BlockLog(1);
                Lab.feed(x, Lab.snapshot(height, 77, 1));
                Due.is("in", height, x.in());
                Due.is("base", height, x.version(1));
            }
        });
        Due.sentence("19: the tape is empty then", () -> {
            BlockLog x = new BlockLog(1);
            Lab.feed(x, Lab.snapshot(3, 77, 1));
            x.in();
            Due.is("wipe", 0, x.wipe());
        });
        Due.sentence("19: a digest that is not 0", () -> {
            for (long digest : new long[] {1, -1, -128, Long.MIN_VALUE, Long.MAX_VALUE}) {
                BlockLog x = new BlockLog(1);
                Lab.feed(x, Lab.snapshot(3, digest, 0));
                Due.is("in", 3, x.in());
                Due.is("digest", digest, x.digest(0));
            }
        });
        Due.sentence("19: leaves are put as by leaf(), in order, then a BASE with its CHANGES", () -> {
            int[] body = Model.join(Model.number(3, 4), Model.number(77, 8), new int[] {3, 1, 1, 9, 4, 1, 8, 15, 1, 9});
            BlockLog x = new BlockLog(3);
            Lab.leaf(x, 8);
            Lab.feed(x, Lab.closed(body));
            Due.is("in", 3, x.in());
            Due.is("one that was there", 0, x.page(Lab.leafDigest(8)));
            Due.is("one for two that are alike", 1, x.page(Lab.leafDigest(9)));
            Due.is("free", 1, x.told(5));
            Due.is("acts", 26 + 26 + 4 * 32, x.told(1));
            Lab.bytes("BASE", x, 32, Model.row(5, 3, 3, 77));
            Lab.bytes("slot 1", x, 64, Model.row(3, 1, 0, Lab.leafDigest(9)));
            Lab.bytes("slot 4", x, 96, Model.row(3, 4, 0, Lab.leafDigest(8)));
            Lab.bytes("slot 15", x, 128, Model.row(3, 15, 0, Lab.leafDigest(9)));
        });
        Due.sentence("19: just enough pages", () -> {
            for (int pages = 1; pages <= 16; pages++) {
                BlockLog x = new BlockLog(pages);
                Lab.feed(x, Lab.snapshot(3, 77, pages));
                Due.is("as many as leaves: " + pages, 3, x.in());
                Due.is("free", 0, x.told(5));
                if (pages < 16) {
                    BlockLog y = new BlockLog(pages);
                    Lab.feed(y, Lab.snapshot(3, 77, pages + 1));
                    Due.is("one too few: " + pages, FULL, y.in());
                    Due.is("nothing is written", 0, y.told(1));
                }
            }
        });
        Due.sentence("19: pages are asked ahead: those that are alike, and those that are there, need none", () -> {
            int[] body = Model.join(Model.number(3, 4), Model.number(77, 8), new int[] {3, 1, 1, 9, 4, 1, 8, 15, 1, 9});
            BlockLog x = new BlockLog(2);
            Lab.leaf(x, 8);
            Lab.feed(x, Lab.closed(body));
            Due.is("one page", 3, x.in());
            BlockLog y = new BlockLog(2);
            Lab.leaf(y, 8);
            Lab.leaf(y, 9);
            Lab.feed(y, Lab.closed(body));
            Due.is("no page", 3, y.in());
            BlockLog z = new BlockLog(2);
            Lab.leaf(z, 8);
            Lab.leaf(z, 7);
            Lab.feed(z, Lab.closed(body));
            Due.is("none is left", FULL, z.in());
            Due.is("the tape stays", Lab.closed(body).length, z.wipe());
        });
        Due.sentence("19: leaves are alike when all their bytes are", () -> {
            int[] body = Model.join(Model.number(3, 4), Model.number(77, 8),
                new int[] {4, 0, 3, 1, 2, 3, 1, 3, 1, 2, 4, 2, 3, 1, 2, 3, 3, 2, 1, 2});
            for (int pages = 2; pages <= 4; pages++) {
                BlockLog x = new BlockLog(pages);
                Lab.feed(x, Lab.closed(body));
                Due.is("three leaves in " + pages, pages < 3 ? FULL : 3, x.in());
                Due.is("acts", pages < 3 ? 0 : 3 * 26 + 5 * 32, x.told(1));
            }
        });
        Due.sentence("19: a BAD page is not enough", () -> {
            BlockLog x = new BlockLog(1);
            Lab.leaf(x, 0);
            Lab.damage(x, Lab.page(0) + 1, 4);
            Lab.feed(x, Lab.snapshot(3, 77, 1));
            Due.is("in", FULL, x.in());
        });
        Due.sentence("19: no slots need no page", () -> {
            BlockLog x = new BlockLog(1);
            Lab.leaf(x, 1);
            Lab.feed(x, Lab.snapshot(3, 77, 0));
            Due.is("in", 3, x.in());
        });
        Due.sentence("19: what out() told", () -> {
            BlockLog x = new BlockLog(2);
            Lab.leaf(x, 1);
            Lab.leaf(x, 2, 0, 2);
            Lab.grow(x, 0, 0);
            Lab.grow(x, 15, 1);
            int n = x.out(2);
            BlockLog y = new BlockLog(2);
            for (int i = 0; i < n; i++) {
                y.feed(x.at(i), 1);
            }
            Due.is("in", 2, y.in());
            for (int s = 0; s < 16; s++) {
                Due.is("slot " + s, x.slot(2, s), y.slot(2, s));
            }
            Due.is("digest", x.digest(3), y.digest(0));
        });
    }

    private static int inOf(int... body) {
        BlockLog x = new BlockLog(16);
        Lab.feed(x, Lab.closed(body));
        int answer = x.in();
        Due.is("acts only if it is one", answer > 0, x.told(1) > 0);
        return answer;
    }

    private static void promise19wrong() {
        int[] good = {0, 0, 0, 7, 0, 0, 0, 0, 0, 0, 0, 1, 2, 3, 1, 9, 5, 2, 8, 8};
        Due.sentence("19: WRONG: by its SUM", () -> {
            int[] all = Lab.closed(good);
            for (int i = 0; i < all.length; i++) {
                BlockLog x = new BlockLog(2);
                Lab.feed(x, Lab.with(all, i, all[i] ^ 128));
                Due.is("byte " + i, WRONG, x.in());
                Due.is("the tape stays", all.length, x.wipe());
            }
        });
        Due.sentence("19: WRONG: by its bytes: too few or too many", () -> {
            int[] all = Lab.closed(good);
            for (int n = 0; n < all.length; n++) {
                BlockLog x = new BlockLog(2);
                Lab.feed(x, Lab.first(n, all));
                Due.is(n + " bytes", WRONG, x.in());
                Due.is(n + " bytes and their SUM", WRONG, n < good.length ? inOf(Lab.first(n, good)) : WRONG);
            }
            Due.is("one more", WRONG, inOf(Lab.first(good.length + 1, good)));
            Due.is("none", WRONG, inOf());
        });
        Due.sentence("19: WRONG: how many slots", () -> {
            Due.is("one too few", WRONG, inOf(Lab.with(good, 12, 1)));
            Due.is("none", WRONG, inOf(Lab.with(good, 12, 0)));
            Due.is("one too many", WRONG, inOf(Lab.with(good, 12, 3)));
            Due.is("17", WRONG, inOf(Lab.with(good, 12, 17)));
            Due.is("255", WRONG, inOf(Lab.with(good, 12, 255)));
            Due.is("just so many", 7, inOf(good));
            Due.is("none, and no slots", 7, inOf(Lab.first(13, Lab.with(good, 12, 0))));
        });
        Due.sentence("19: WRONG: 17 slots", () -> {
            int[] body = Lab.first(13, Lab.with(good, 12, 17));
            for (int s = 0; s < 17; s++) {
                body = Model.join(body, new int[] {s, 1, s});
            }
            Due.is("in", WRONG, inOf(body));
        });
        Due.sentence("19: slots must rise", () -> {
            Due.is("the same", WRONG, inOf(Lab.with(good, 16, 3)));
            Due.is("one less", WRONG, inOf(Lab.with(good, 16, 2)));
            Due.is("0", WRONG, inOf(Lab.with(good, 16, 0)));
            Due.is("one more", 7, inOf(Lab.with(good, 16, 4)));
            Due.is("15", 7, inOf(Lab.with(good, 16, 15)));
            Due.is("16", WRONG, inOf(Lab.with(good, 16, 16)));
            Due.is("128", WRONG, inOf(Lab.with(good, 16, 128)));
            Due.is("255", WRONG, inOf(Lab.with(good, 16, 255)));
            Due.is("the first is 0", 7, inOf(Lab.with(good, 13, 0)));
            Due.is("the first is 255", WRONG, inOf(Lab.with(good, 13, 255)));
        });
        Due.sentence("19: height 1 .. 1000000, else WRONG", () -> {
            for (int height : new int[] {0, -1, 1000001, Integer.MAX_VALUE, Integer.MIN_VALUE}) {
                BlockLog x = new BlockLog(2);
                Lab.feed(x, Lab.snapshot(height, 77, 1));
                Due.is("height " + height, WRONG, x.in());
            }
        });
        Due.sentence("19: a digest that is 0 is WRONG", () -> {
            BlockLog x = new BlockLog(2);
            Lab.feed(x, Lab.snapshot(3, 0, 1));
            Due.is("in", WRONG, x.in());
        });
        Due.sentence("19: 1 .. 16 bytes a leaf", () -> {
            for (int n : new int[] {0, 1, 2, 15, 16, 17, 18, 200}) {
                int[] body = Model.join(Lab.first(13, Lab.with(good, 12, 1)), new int[] {3, n}, new int[n]);
                Due.is(n + " bytes", n >= 1 && n <= 16 ? 7 : WRONG, inOf(body));
            }
        });
    }

    private static void promise20() {
        Due.sentence("20: 0 .. 5000; NONE", () -> {
            for (int acts : new int[] {NONE, 0, 1, 4999, 5000}) {
                BlockLog x = new BlockLog(1);
                x.cut(acts);
                Due.is("on", 1, x.told(0));
                Due.is("leaf behind " + acts, acts == 0 || acts == 1 ? OFF : 0, Lab.leaf(x, 1));
            }
        });
        Due.sentence("20: when so many acts more are done, and there is one more", () -> {
            for (int acts = 0; acts <= 26; acts++) {
                BlockLog x = new BlockLog(1);
                x.cut(acts);
                Due.is("leaf with " + acts, acts < 26 ? OFF : 0, Lab.leaf(x, 1));
                Due.is("acts", acts, x.told(1));
                Due.is("on", acts < 26 ? 0 : 1, x.told(0));
            }
        });
        Due.sentence("20: 5000 acts are done still", () -> {
            BlockLog x = new BlockLog(1);
            x.cut(5000);
            x.block(1, 0);
            Lab.fillRows(x, 128);
            Due.is("acts", 4096, x.told(1));
            int acts = 4096;
            for (int i = 0; i < 904; i++) {
                x.off();
                x.poke(8224, 1);
                Due.is("open", 128, x.open());
                acts++;
            }
            Due.is("acts", acts, x.told(1));
            x.off();
            x.poke(8224, 1);
            Due.is("the next one", OFF, x.open());
        });
        Due.sentence("20: NONE: never", () -> {
            BlockLog x = new BlockLog(1);
            x.cut(0);
            x.cut(NONE);
            Due.is("leaf", 0, Lab.leaf(x, 1));
        });
        Due.sentence("20: the last cut() counts", () -> {
            BlockLog x = new BlockLog(2);
            x.cut(3);
            x.cut(26);
            Due.is("leaf", 0, Lab.leaf(x, 1));
            Due.is("leaf", OFF, Lab.leaf(x, 2));
            Due.is("acts", 26, x.told(1));
        });
        Due.sentence("20: it may be told while it is off", () -> {
            BlockLog x = new BlockLog(1);
            x.off();
            x.poke(8224, 1);
            x.cut(0);
            Due.is("open", OFF, x.open());
            Due.is("open", 0, x.open());
        });
        Due.sentence("20: a call without acts goes on", () -> {
            BlockLog x = new BlockLog(1);
            x.block(1, 0);
            x.vote(1, 0, -1);
            x.cut(0);
            Due.is("the same vote", 1, x.vote(1, 0, -1));
            Due.is("the same block", 0, x.block(1, 0));
            Due.is("open", 2, x.open());
            Due.is("a clean disk", 2, Lab.reopen(x));
            Due.is("on", 1, x.told(0));
            Due.is("an act", OFF, x.vote(1, 1, -1));
        });
    }

    private static void promise21() {
        Due.sentence("21: whether it was on", () -> {
            BlockLog x = new BlockLog(1);
            Due.is("on", true, x.off());
            Due.is("off", false, x.off());
            x.open();
            Due.is("on again", true, x.off());
            x.open();
            x.cut(0);
            Lab.leaf(x, 1);
            Due.is("the power went in a call", false, x.off());
        });
        Due.sentence("21: what was collected by change() is nothing then", () -> {
            BlockLog x = new BlockLog(1);
            x.change(0, NONE);
            x.change(1, NONE);
            x.off();
            Due.is("off", 0, x.told(8));
            x.open();
            Due.is("on", 0, x.told(8));
            Due.is("the next one is the first", 1, x.change(0, NONE));
            Due.is("block", 0, x.block(1, 0));
            Due.is("rows", 2, x.told(4));
        });
        Due.sentence("21: the tape stays", () -> {
            BlockLog x = new BlockLog(1);
            x.feed(1, 3);
            x.off();
            x.open();
            Due.is("wipe", 3, x.wipe());
        });
    }

    private static void promise22() {
        Due.sentence("22: how many rows there are", () -> {
            BlockLog x = new BlockLog(1);
            Due.is("none", 0, Lab.reopen(x));
            x.block(1, 0);
            Due.is("one", 1, Lab.reopen(x));
            Lab.fillRows(x, 128);
            Due.is("all", 128, Lab.reopen(x));
        });
        Due.sentence("22: when it is on: how many rows there are", () -> {
            BlockLog x = new BlockLog(1);
            Due.is("none", 0, x.open());
            x.block(1, 0);
            x.change(0, NONE);
            Due.is("one", 1, x.open());
            Due.is("collected", 1, x.told(8));
        });
        Due.sentence("22: in NEED: how many rows there are", () -> {
            BlockLog x = new BlockLog(1);
            x.block(1, 0);
            x.vote(1, 0, -1);
            Due.is("open", 2, Lab.damage(x, Lab.row(0, 0) + 4, 1));
            Due.is("open", 2, x.open());
        });
        Due.sentence("22: OFF when the power goes in it, then it is done again", () -> {
            BlockLog x = new BlockLog(3);
            x.off();
            for (int p = 0; p < 3; p++) {
                x.poke(Lab.page(p), 1);
            }
            for (int i = 0; i < 3; i++) {
                x.cut(1);
                Due.is("open", i < 2 ? OFF : 0, x.open());
                Due.is("acts", i + 1, x.told(1));
            }
        });
        Due.sentence("22: LOST, then a head is there again", () -> {
            BlockLog x = new BlockLog(1);
            x.block(1, 0);
            x.off();
            x.poke(7, 1);
            Due.is("open", LOST, x.open());
            Due.is("off", false, x.off());
            x.poke(7, 1);
            Due.is("open", 1, x.open());
        });
    }

    private static void promises23and24() {
        Due.sentence("23: the first and the last place, masks 0 and 255", () -> {
            BlockLog x = new BlockLog(2);
            int end = 8224 + 51;
            x.off();
            Due.is("the last place", 255, x.poke(end, 255));
            Due.is("by 0", 255, x.poke(end, 0));
            Due.is("by 1", 254, x.poke(end, 1));
            Due.is("byteAt", 254, x.byteAt(end));
            Due.is("the first place", 255, x.poke(0, 255));
            Due.is("byteAt", 255, x.byteAt(0));
            Due.bounds("behind the last place", () -> x.poke(end + 1, 0));
        });
        Due.sentence("23: no act", () -> {
            BlockLog x = new BlockLog(1);
            x.off();
            x.cut(0);
            Due.is("poke", 1, x.poke(8224, 1));
            Due.is("acts", 0, x.told(1));
        });
        Due.sentence("24: a byte of the disk, on or off", () -> {
            BlockLog x = new BlockLog(1);
            Due.is("on", 165, x.byteAt(7));
            x.off();
            Due.is("off", 165, x.byteAt(7));
            Due.is("the last one", 0, x.byteAt(8224 + 25));
            Due.bounds("behind it", () -> x.byteAt(8224 + 26));
            Due.bounds("ahead of the first", () -> x.byteAt(-1));
        });
    }

    private static void promises25and26() {
        Due.sentence("25: BAD rows by their numbers, then 128 + the numbers of BAD pages", () -> {
            BlockLog x = new BlockLog(3);
            for (int p = 0; p < 3; p++) {
                Lab.leaf(x, p);
            }
            x.block(1, 0);
            Lab.fillRows(x, 128);
            Lab.damage(x, Lab.row(0, 0) + 4, 2, Lab.row(0, 127) + 4, 2, Lab.page(0) + 1, 4, Lab.page(2) + 1, 4);
            int[] want = {0, 127, 128, 130, NONE};
            for (int k = 0; k < want.length; k++) {
                Due.is("asked " + k, want[k], x.asked(k));
            }
        });
        Due.sentence("25: NONE when there are not so many", () -> {
            BlockLog x = new BlockLog(1);
            for (int k : new int[] {0, 1, 127, 128, Integer.MAX_VALUE, -1, Integer.MIN_VALUE}) {
                Due.is("asked " + k, NONE, x.asked(k));
            }
        });
        Due.sentence("25: what is no row is not asked for", () -> {
            BlockLog x = Lab.withRows(1, Model.row(9, 1, 1, 1), new int[32], Lab.with(Model.row(9, 1, 1, 1), 3, 9));
            Due.is("asked", NONE, x.asked(0));
            Due.argument("mend", () -> x.mend(2));
            BlockLog y = Lab.withRows(1, Model.row(2, 1, 0, 0), new int[32], Lab.with(Model.row(9, 1, 1, 1), 3, 9));
            Due.is("vote", 1, y.vote(1, 0, -1));
            Due.is("right behind the rows", NONE, y.asked(0));
            Due.argument("mend", () -> y.mend(2));
        });
        Due.sentence("26: how many are asked for still", () -> {
            BlockLog x = new BlockLog(2);
            Lab.leaf(x, 1);
            Lab.leaf(x, 2);
            x.block(1, 0);
            int[] block = Lab.read(x, 32, 23);
            Lab.damage(x, 32 + 4, 2, Lab.page(0) + 1, 4, Lab.page(1) + 1, 4);
            Lab.feed(x, 2);
            Due.is("two", 2, x.mend(129));
            Lab.feed(x, block);
            Due.is("one", 1, x.mend(0));
            Lab.feed(x, 1);
            Due.is("none", 0, x.mend(128));
            Due.argument("it is asked for no more", () -> x.mend(128));
        });
        Due.sentence("26: the tape is empty then", () -> {
            BlockLog x = new BlockLog(1);
            Lab.leaf(x, 1);
            Lab.damage(x, Lab.page(0) + 1, 4);
            Lab.feed(x, 1);
            x.mend(128);
            Due.is("wipe", 0, x.wipe());
        });
        Due.sentence("26: the last page of the most pages", () -> {
            BlockLog x = new BlockLog(65536);
            x.off();
            Lab.overwrite(x, Lab.page(65535), Lab.with(Model.page(new int[] {3, 4}), 1, 9));
            x.open();
            Due.is("asked", 128 + 65535, x.asked(0));
            Lab.feed(x, 3, 4);
            Due.is("mend", 0, x.mend(128 + 65535));
            Due.is("byteOf", 3, x.byteOf(65535, 0));
            Due.argument("no such page", () -> x.mend(128 + 65536));
        });
    }

    private static void promise27() {
        Due.sentence("27: what is told of a log", () -> {
            BlockLog x = new BlockLog(4);
            Lab.leaf(x, 1);
            Lab.leaf(x, 2);
            Lab.grow(x, 0, 0);
            x.prune(1);
            x.block(2, -1);
            Lab.leaf(x, 3);
            Lab.leaf(x, 4);
            Lab.damage(x, Lab.row(1, 2) + 4, 1, Lab.page(1) + 1, 4, Lab.page(2) + 1, 4);
            x.change(0, NONE);
            int acts = 2 * 26 + 3 * 32 + (1 + 2 * 32 + 16 + 1 + 1) + 32 + 2 * 26;
            int[] want = {1, acts, 1, 2, 3, 1, 1, 2, 1};
            for (int what = 0; what < want.length; what++) {
                Due.is("told " + what, want[what], x.told(what));
            }
            x.off();
            for (int what = 0; what < want.length; what++) {
                Due.is("off: told " + what, what == 1 ? acts : 0, x.told(what));
            }
        });
        Due.sentence("27: of a LOST disk", () -> {
            BlockLog x = new BlockLog(1);
            x.off();
            x.poke(3, 1);
            x.open();
            for (int what = 0; what <= 8; what++) {
                Due.is("told " + what, 0, x.told(what));
            }
        });
        Due.sentence("27: acts are counted on, whatever the power does", () -> {
            BlockLog x = new BlockLog(1);
            x.cut(5);
            Lab.leaf(x, 1);
            Due.is("off", 5, x.told(1));
            x.open();
            Due.is("one page was erased", 6, x.told(1));
            Lab.reopen(x);
            Due.is("nothing was to be done", 6, x.told(1));
        });
    }

    // ---- "When the power goes in a call the answer is OFF"

    /** A block of height 1 with a CHANGE (certified), one leaf; three bytes on the tape, one change collected. */
    private static BlockLog ready() {
        BlockLog x = new BlockLog(4);
        Lab.leaf(x, 1);
        Lab.grow(x, 0, 0);
        Lab.feed(x, 7, 8, 9);
        x.change(5, NONE);
        return x;
    }

    /** What the tape and what was collected are behind the power's going, and that it is off. */
    private static void leaves(BlockLog x, int tape, int collected) {
        Due.is("off", 0, x.told(0));
        Due.state("version", () -> x.version(0));
        x.open();
        Due.is("collected", collected, x.told(8));
        Due.is("tape", tape, x.wipe());
    }

    private static void thePowerGoes() {
        Due.sentence("the power goes in leaf(): the tape is used up, what was collected is not", () -> {
            for (int cut : new int[] {0, 1, 25}) {
                BlockLog x = ready();
                x.cut(cut);
                Due.is("leaf", OFF, x.leaf());
                leaves(x, 0, 1);
            }
        });
        Due.sentence("the power goes in block(): what was collected is used up, the tape is not", () -> {
            for (int cut : new int[] {0, 1, 31, 32, 33, 63}) {
                BlockLog x = ready();
                x.cut(cut);
                Due.is("block", OFF, x.block(2, -1));
                leaves(x, 3, 0);
            }
        });
        Due.sentence("the power goes in vote(): neither is used up", () -> {
            for (int cut : new int[] {0, 1, 31}) {
                BlockLog x = ready();
                x.cut(cut);
                Due.is("vote", OFF, x.vote(1, 0, -1));
                leaves(x, 3, 1);
            }
        });
        Due.sentence("the power goes in certify(): neither is used up", () -> {
            BlockLog x = ready();
            x.block(2, -1);
            x.change(5, NONE);
            x.cut(31);
            Due.is("certify", OFF, x.certify(-4, 7));
            leaves(x, 3, 1);
            Due.is("it is there, but for its last byte", 2, x.version(0));
        });
        Due.sentence("the power goes in prune(): neither is used up", () -> {
            for (int cut : new int[] {0, 1, 33, 65, 81}) {
                BlockLog x = ready();
                x.cut(cut);
                Due.is("prune", OFF, x.prune(1));
                leaves(x, 3, 1);
            }
        });
        Due.sentence("the power goes in in(): the tape is used up, what was collected is not", () -> {
            for (int cut : new int[] {0, 25, 26, 51, 52, 83, 84, 147}) {
                BlockLog x = new BlockLog(4);
                x.change(5, NONE);
                Lab.feed(x, Lab.snapshot(3, 77, 2));
                x.cut(cut);
                Due.is("in with " + cut, OFF, x.in());
                leaves(x, 0, 1);
                Due.is("rows", cut == 147 ? 3 : 0, x.told(4));
            }
        });
        Due.sentence("the power goes in mend(): the tape is used up, what was collected is not", () -> {
            BlockLog x = ready();
            Lab.damage(x, Lab.page(0) + 1, 4);
            x.change(5, NONE);
            Lab.feed(x, 1);
            x.cut(0);
            Due.is("mend", OFF, x.mend(128));
            leaves(x, 0, 1);
            Due.is("asked", 128, x.asked(0));
        });
        Due.sentence("the power goes in open(): the tape is not used up", () -> {
            BlockLog x = ready();
            x.off();
            x.poke(Lab.page(3), 1);
            x.cut(0);
            Due.is("open", OFF, x.open());
            leaves(x, 3, 0);
        });
        Due.sentence("what was written by then is there: wherever the power goes, a block is there wholly or not at all", () -> {
            for (int cut = 0; cut <= 96; cut++) {
                BlockLog x = new BlockLog(1);
                x.change(0, NONE);
                x.change(1, NONE);
                x.cut(cut);
                Due.is("block", cut < 96 ? OFF : 0, x.block(1, 0));
                Due.is("acts", cut, x.told(1));
                x.cut(NONE);
                boolean whole = cut >= 95;
                Due.is("open behind " + cut, whole ? 3 : 0, x.open());
                if (!whole) {
                    Lab.bytes("the rows", x, 32, new int[96]);
                }
            }
        });
        Due.sentence("(While the power is off there is no row but 0 .. 127)", () -> {
            BlockLog x = new BlockLog(1);
            x.block(1, 0);
            x.off();
            for (int row : new int[] {0, 1, 127}) {
                Due.state("digest " + row, () -> x.digest(row));
                Due.state("sent " + row, () -> x.sent(row) ? 1 : 0);
            }
            for (int row : new int[] {-1, 128}) {
                Due.bounds("digest " + row, () -> x.digest(row));
                Due.bounds("sent " + row, () -> x.sent(row) ? 1 : 0);
            }
        });
    }
}
