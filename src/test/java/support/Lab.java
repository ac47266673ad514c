/** What tests of a BlockLog do again and again. */
final class Lab {
    private Lab() {
    }

    static void feed(BlockLog x, int... bytes) {
        x.wipe();
        for (int b : bytes) {
            x.feed(b, 1);
        }
    }

    static int leaf(BlockLog x, int... bytes) {
        feed(x, bytes);
        return x.leaf();
    }

    static long leafDigest(int... bytes) {
        int[] page = Model.page(bytes);
        return Model.sum(3, java.util.Arrays.copyOf(page, 17));
    }

    static int row(int area, int row) {
        return 32 + 4096 * area + 32 * row;
    }

    static int page(int page) {
        return 8224 + 26 * page;
    }

    static void bytes(String what, BlockLog x, int place, int... want) {
        for (int i = 0; i < want.length; i++) {
            Due.is(what + ", byte " + (place + i), want[i], x.byteAt(place + i));
        }
    }

    static int[] read(BlockLog x, int place, int n) {
        int[] out = new int[n];
        for (int i = 0; i < n; i++) {
            out[i] = x.byteAt(place + i);
        }
        return out;
    }

    /** Pokes until the bytes from a place on are these. The power must be off. */
    static void overwrite(BlockLog x, int place, int... bytes) {
        for (int i = 0; i < bytes.length; i++) {
            x.poke(place + i, x.byteAt(place + i) ^ bytes[i]);
        }
    }

    /** A block of one change on top of what is certified, and its certificate: the block's row. */
    static int grow(BlockLog x, int slot, int page) {
        int height = x.version(0) + 1;
        long parent = top(x);
        x.change(slot, page);
        int row = x.block(height, parent);
        x.certify(-1 - row, 7);
        return row;
    }

    /** The digest of the last version's block, found by looking at the rows. */
    static long top(BlockLog x) {
        long found = 0;
        for (int r = 0; r < x.told(4); r++) {
            int kind = x.byteAt(row(x.told(2), r));
            long c = 0;
            for (int i = 9; i < 17; i++) {
                c = c << 8 | x.byteAt(row(x.told(2), r) + i);
            }
            if (kind == 4 || kind == 5) {
                found = c;
            }
        }
        return found;
    }
}
