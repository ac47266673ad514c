/** What tests of a BlockLog do again and again. */
final class Lab {
    private Lab() {
    }

    static void feed(BlockLog x, int... bytes) {
        x.wipe();
        for (int b : bytes) {
            x.feed(b, 1);
        }
    }

    static int leaf(BlockLog x, int... bytes) {
        feed(x, bytes);
        return x.leaf();
    }

    static long leafDigest(int... bytes) {
        int[] page = Model.page(bytes);
        return Model.sum(3, java.util.Arrays.copyOf(page, 17));
    }

    static int row(int area, int row) {
        return 32 + 4096 * area + 32 * row;
    }

    static int page(int page) {
        return 8224 + 26 * page;
    }

    static void bytes(String what, BlockLog x, int place, int... want) {
        for (int i = 0; i < want.length; i++) {
            Due.is(what + ", byte " + (place + i), want[i], x.byteAt(place + i));
        }
    }

    static int[] read(BlockLog x, int place, int n) {
        int[] out = new int[n];
        for (int i = 0; i < n; i++) {
            out[i] = x.byteAt(place + i);
        }
        return out;
    }

    /** Pokes until the bytes from a place on are these. The power must be off. */
    static void overwrite(BlockLog x, int place, int... bytes) {
        for (int i = 0; i < bytes.length; i++) {
            int mask = x.byteAt(place + i) ^ bytes[i];
            if (mask != 0) {
                x.poke(place + i, mask);
            }
        }
    }

    /** A log that was opened with these as its first rows. */
    static BlockLog withRows(int pages, int[]... rows) {
        BlockLog x = new BlockLog(pages);
        x.off();
        for (int r = 0; r < rows.length; r++) {
            overwrite(x, row(0, r), rows[r]);
        }
        x.open();
        return x;
    }

    /** A log that was opened with these bytes as page 0. */
    static BlockLog withPage(int... bytes) {
        BlockLog x = new BlockLog(2);
        x.off();
        overwrite(x, page(0), bytes);
        x.open();
        return x;
    }

    static int reopen(BlockLog x) {
        x.off();
        return x.open();
    }

    /** Alters bytes while the power is off: place, mask, place, mask .. */
    static int damage(BlockLog x, int... places) {
        x.off();
        for (int i = 0; i < places.length; i += 2) {
            x.poke(places[i], places[i + 1]);
        }
        return x.open();
    }

    /** The digest of a block: its changes as slot, leaf, slot, leaf .. */
    static long blockDigest(int height, long parent, long... changes) {
        int[] bytes = Model.join(Model.number(height, 4), Model.number(parent, 8));
        for (int i = 0; i < changes.length; i += 2) {
            bytes = Model.join(bytes, Model.number(changes[i], 4), Model.number(changes[i + 1], 8));
        }
        return Model.sum(4, bytes);
    }

    /** Votes for the block of height 1 in row 0, until there are so many rows. */
    static void fillRows(BlockLog x, int rows) {
        for (int round = 0; x.told(4) < rows; round++) {
            x.vote(1, round, -1);
        }
    }

    /** A snapshot, closed by its SUM. */
    static int[] closed(int... body) {
        return Model.join(body, Model.number(Model.sum(5, body), 8));
    }

    /** A snapshot with leaves {0}, {1}, .. in the first slots. */
    static int[] snapshot(int height, long digest, int slots) {
        int[] bytes = Model.join(Model.number(height, 4), Model.number(digest, 8), new int[] {slots});
        for (int s = 0; s < slots; s++) {
            bytes = Model.join(bytes, new int[] {s, 1, s});
        }
        return closed(bytes);
    }

    static int[] with(int[] bytes, int i, int b) {
        int[] out = bytes.clone();
        out[i] = b;
        return out;
    }

    static int[] first(int n, int[] bytes) {
        return java.util.Arrays.copyOf(bytes, n);
    }

    /** A block of one change on top of what is certified, and its certificate: the block's row. */
    static int grow(BlockLog x, int slot, int page) {
        int height = x.version(0) + 1;
        long parent = top(x);
        x.change(slot, page);
        int row = x.block(height, parent);
        x.certify(-1 - row, 7);
        return row;
    }

    /** The digest of the last version's block, found by looking at the rows. */
    static long top(BlockLog x) {
        long found = 0;
        for (int r = 0; r < x.told(4); r++) {
            int kind = x.byteAt(row(x.told(2), r));
            long c = 0;
            for (int i = 9; i < 17; i++) {
                c = c << 8 | x.byteAt(row(x.told(2), r) + i);
            }
            if (kind == 4 || kind == 5) {
                found = c;
            }
        }
        return found;
    }
}
