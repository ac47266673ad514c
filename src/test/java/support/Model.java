import java.util.ArrayList;
import java.util.Arrays;
import java.util.HashMap;
import java.util.HashSet;
import java.util.List;
import java.util.Map;
import java.util.Set;

/**
 * The document once more, in the plainest way and as unlike the class as can be: one array of bytes, nothing remembered
 * of what they say, and an exception for the power's going. Random runs are held against it.
 */
final class Model {
    private static final class PowerGone extends RuntimeException {
        private static final long serialVersionUID = 1L;

        PowerGone() {
            super(null, null, false, false);
        }
    }

    /** What rows say, read from the first row on each time that it is asked. */
    static final class Said {
        boolean base;
        int baseHeight;
        long baseDigest;
        final Map<Integer, Long> digestOfRow = new HashMap<>();
        final Map<Long, Integer> blocks = new HashMap<>();
        final Set<Long> namedByBlocks = new HashSet<>();
        final List<Long> chain = new ArrayList<>();
        final List<long[]> versions = new ArrayList<>();
        final Set<Integer> fitting = new HashSet<>();
        int vote = -1;

        int last() {
            return baseHeight + chain.size();
        }

        long blockOf(int version) {
            return version == baseHeight ? baseDigest : chain.get(version - baseHeight - 1);
        }
    }

    final int pages;
    final int[] disk;
    boolean on = true;
    int left = -1;
    int acts;
    int area;
    int generation = 1;
    int rows;
    List<Integer> tape = new ArrayList<>();
    List<long[]> collected = new ArrayList<>();

    Model(int wanted) {
        pages = Math.max(1, Math.min(65536, wanted));
        disk = new int[8224 + 26 * pages];
        int[] head = head(1);
        System.arraycopy(head, 0, disk, 0, 16);
    }

    // ---- sums, images, states

    static long sum(int number, int... bytes) {
        long s = 1000003L * number;
        for (int b : bytes) {
            s = Long.rotateLeft(s ^ b, 21) * 0xC2B2AE3D27D4EB4FL;
        }
        return s;
    }

    static int[] join(int[]... parts) {
        return Arrays.stream(parts).flatMapToInt(Arrays::stream).toArray();
    }

    static int[] number(long value, int bytes) {
        int[] out = new int[bytes];
        for (int i = 0; i < bytes; i++) {
            out[i] = (int) (value >>> (8 * (bytes - 1 - i))) & 255;
        }
        return out;
    }

    static int[] closed(int number, int[] body) {
        return join(body, number(sum(number, body), 8), new int[] {165});
    }

    static int[] head(int generation) {
        int[] eight = join(number(generation, 4), new int[] {0, 0, 0, 165});
        return join(eight, number(sum(1, eight), 8));
    }

    static int[] row(int kind, int a, int b, long c) {
        return closed(2, join(new int[] {kind}, number(a, 4), number(b, 4), number(c, 8), new int[6]));
    }

    static int[] page(int[] leaf) {
        return closed(3, join(new int[] {leaf.length}, leaf, new int[16 - leaf.length]));
    }

    long value(int from, int n) {
        long v = 0;
        for (int i = 0; i < n; i++) {
            v = v << 8 | disk[from + i];
        }
        return v;
    }

    int[] cut(int from, int n) {
        return Arrays.copyOfRange(disk, from, from + n);
    }

    static boolean zero(int[] bytes) {
        return Arrays.stream(bytes).allMatch(b -> b == 0);
    }

    int rowAt(int inArea, int row) {
        return 32 + 4096 * inArea + 32 * row;
    }

    int pageAt(int page) {
        return 8224 + 26 * page;
    }

    /** F, R, T or B. */
    char state(int[] bytes, int body, int number) {
        if (zero(bytes)) {
            return 'F';
        }
        int last = bytes[bytes.length - 1];
        int[] others = Arrays.copyOf(bytes, bytes.length - 1);
        int[] front = Arrays.copyOf(bytes, body);
        int[] sum = Arrays.copyOfRange(bytes, body, body + 8);
        boolean right = Arrays.equals(sum, number(sum(number, front), 8)) && (!zero(sum) || last == 165);
        if (right && number == 3) {
            right = bytes[0] >= 1 && bytes[0] <= 16 && zero(Arrays.copyOfRange(bytes, 1 + bytes[0], 17));
        }
        if (right) {
            return 'R';
        }
        return last == 0 || zero(others) ? 'T' : 'B';
    }

    char rowState(int row) {
        return state(cut(rowAt(area, row), 32), 23, 2);
    }

    char pageState(int page) {
        // Nearly all pages of a big disk are free: that is seen without making a copy of them.
        for (int i = 0; i < 26; i++) {
            if (disk[pageAt(page) + i] != 0) {
                return state(cut(pageAt(page), 26), 17, 3);
            }
        }
        return 'F';
    }

    // ---- acts

    private void act() {
        if (left == 0) {
            left = -1;
            on = false;
            throw new PowerGone();
        }
        if (left > 0) {
            left--;
        }
        acts++;
    }

    private void write(int place, int[] bytes) {
        for (int i = 0; i < bytes.length; i++) {
            act();
            disk[place + i] = bytes[i];
        }
    }

    private void erase(int place, int n) {
        act();
        Arrays.fill(disk, place, place + n, 0);
    }

    private void append(int[] row) {
        write(rowAt(area, rows), row);
        rows++;
    }

    // ---- what rows say

    int kind(int row) {
        return disk[rowAt(area, row)];
    }

    int a(int row) {
        return (int) value(rowAt(area, row) + 1, 4);
    }

    int b(int row) {
        return (int) value(rowAt(area, row) + 5, 4);
    }

    long c(int row) {
        return value(rowAt(area, row) + 9, 8);
    }

    List<Integer> asked() {
        List<Integer> out = new ArrayList<>();
        for (int r = 0; r < rows; r++) {
            if (rowState(r) == 'B') {
                out.add(r);
            }
        }
        for (int p = 0; p < pages; p++) {
            if (pageState(p) == 'B') {
                out.add(128 + p);
            }
        }
        return out;
    }

    boolean need() {
        for (int r = 0; r < rows; r++) {
            if (rowState(r) == 'B') {
                return true;
            }
        }
        return false;
    }

    private boolean whole(int r) {
        if (a(r) < 1 || a(r) > 1000000 || b(r) < 0 || b(r) > 16 || r + b(r) >= rows) {
            return false;
        }
        for (int i = 1; i <= b(r); i++) {
            if (kind(r + i) != 3 || a(r + i) < 0 || a(r + i) > 15) {
                return false;
            }
        }
        return true;
    }

    long blockSum(int height, long parent, List<long[]> changes) {
        int[] bytes = join(number(height, 4), number(parent, 8));
        for (long[] change : changes) {
            bytes = join(bytes, number(change[0], 4), number(change[1], 8));
        }
        return sum(4, bytes);
    }

    List<long[]> changes(int r) {
        List<long[]> out = new ArrayList<>();
        for (int i = 1; i <= b(r); i++) {
            out.add(new long[] {a(r + i), c(r + i)});
        }
        return out;
    }

    private static long[] apply(long[] slots, List<long[]> changes) {
        long[] out = slots.clone();
        for (long[] change : changes) {
            out[(int) change[0]] = change[1];
        }
        return out;
    }

    Said said() {
        Said said = new Said();
        if (need()) {
            return said;
        }
        if (rows > 0 && kind(0) == 5 && whole(0) && c(0) != 0) {
            said.base = true;
            said.baseHeight = a(0);
            said.baseDigest = c(0);
            said.digestOfRow.put(0, c(0));
        }
        said.versions.add(said.base ? apply(new long[16], changes(0)) : new long[16]);
        for (int r = 0; r < rows; r++) {
            if (kind(r) == 1) {
                said.vote = r;
            }
            if (kind(r) == 2 && whole(r)) {
                long d = blockSum(a(r), c(r), changes(r));
                if (d != 0) {
                    said.digestOfRow.put(r, d);
                    changes(r).forEach(change -> said.namedByBlocks.add(change[1]));
                    if (!(said.base && d == said.baseDigest)) {
                        said.blocks.putIfAbsent(d, r);
                    }
                }
            }
            if (kind(r) == 4 && said.blocks.containsKey(c(r))) {
                int block = said.blocks.get(c(r));
                if (a(block) == said.last() + 1 && c(block) == said.blockOf(said.last())) {
                    said.fitting.add(r);
                    long[] before = said.versions.get(said.versions.size() - 1);
                    said.versions.add(apply(before, changes(block)));
                    said.chain.add(c(r));
                }
            }
        }
        return said;
    }

    boolean isNamed(Said said, long leaf) {
        if (leaf == 0) {
            return false;
        }
        for (long[] version : said.versions) {
            for (long held : version) {
                if (held == leaf) {
                    return true;
                }
            }
        }
        return said.namedByBlocks.contains(leaf);
    }

    long meant(Said said, long digest) {
        if (digest >= -128 && digest <= -1) {
            return said.digestOfRow.getOrDefault((int) (-digest - 1), 0L);
        }
        return digest;
    }

    // ---- the face

    private void power() {
        if (!on) {
            throw new IllegalStateException();
        }
    }

    private static void argument(boolean good) {
        if (!good) {
            throw new IllegalArgumentException();
        }
    }

    private static void index(boolean good) {
        if (!good) {
            throw new IndexOutOfBoundsException();
        }
    }

    long feed(long w, int n) {
        argument(n >= 1 && n <= 8 && tape.size() + n <= 400);
        for (int b : number(w, 8 < n ? 8 : n)) {
            tape.add(b);
        }
        return tape.size();
    }

    long wipe() {
        int had = tape.size();
        tape.clear();
        return had;
    }

    long at(int i) {
        index(i >= 0 && i < tape.size());
        return tape.get(i);
    }

    private int[] tapeBytes() {
        return tape.stream().mapToInt(Integer::intValue).toArray();
    }

    private int samePage(int[] leaf) {
        for (int p = 0; p < pages; p++) {
            if (pageState(p) == 'R' && Arrays.equals(cut(pageAt(p), 17), Arrays.copyOf(page(leaf), 17))) {
                return p;
            }
        }
        return -1;
    }

    private int freePage() {
        for (int p = 0; p < pages; p++) {
            if (pageState(p) == 'F') {
                return p;
            }
        }
        return -1;
    }

    private int freePages() {
        int count = 0;
        for (int p = 0; p < pages; p++) {
            if (pageState(p) == 'F') {
                count++;
            }
        }
        return count;
    }

    private int put(int[] leaf) {
        int p = samePage(leaf);
        if (p < 0) {
            p = freePage();
            write(pageAt(p), page(leaf));
        }
        return p;
    }

    long leaf() {
        power();
        argument(tape.size() >= 1 && tape.size() <= 16);
        if (need()) {
            return -3;
        }
        int[] leaf = tapeBytes();
        if (samePage(leaf) < 0 && freePage() < 0) {
            return -2;
        }
        tape.clear();
        try {
            return put(leaf);
        } catch (PowerGone e) {
            return -4;
        }
    }

    long change(int slot, int page) {
        power();
        argument(slot >= 0 && slot < 16 && page >= -1 && page < pages);
        if (page >= 0 && pageState(page) != 'R') {
            return -6;
        }
        if (collected.size() == 8) {
            return -2;
        }
        collected.add(new long[] {slot, page < 0 ? 0 : value(pageAt(page) + 17, 8)});
        return collected.size();
    }

    long block(int height, long parent) {
        power();
        argument(height >= 1 && height <= 1000000);
        if (need()) {
            return -3;
        }
        Said said = said();
        long p = meant(said, parent);
        int above;
        if (said.blocks.containsKey(p)) {
            above = a(said.blocks.get(p));
        } else if (said.base && p == said.baseDigest) {
            above = said.baseHeight;
        } else if (!said.base && p == 0) {
            above = 0;
        } else {
            return -6;
        }
        if (height != above + 1) {
            return -10;
        }
        long d = blockSum(height, p, collected);
        if (said.blocks.containsKey(d)) {
            collected.clear();
            return said.blocks.get(d);
        }
        if (rows + 1 + collected.size() > 128) {
            return -2;
        }
        List<long[]> changes = new ArrayList<>(collected);
        collected.clear();
        int first = rows;
        try {
            append(row(2, height, changes.size(), p));
            for (long[] change : changes) {
                append(row(3, (int) change[0], 0, change[1]));
            }
            return first;
        } catch (PowerGone e) {
            return -4;
        }
    }

    long digest(int row) {
        index(row >= 0 && row < (on ? rows : 128));
        power();
        return said().digestOfRow.getOrDefault(row, 0L);
    }

    long vote(int height, int round, long digest) {
        power();
        argument(height >= 1 && height <= 1000000 && round >= 0 && round <= 1000000);
        if (need()) {
            return -3;
        }
        Said said = said();
        long d = meant(said, digest);
        if (!said.blocks.containsKey(d) || a(said.blocks.get(d)) != height) {
            return -6;
        }
        if (said.vote >= 0) {
            int[] same = row(1, height, round, d);
            if (Arrays.equals(cut(rowAt(area, said.vote), 17), Arrays.copyOf(same, 17))) {
                return said.vote;
            }
            if (a(said.vote) > height || a(said.vote) == height && b(said.vote) >= round) {
                return -7;
            }
        }
        if (rows == 128) {
            return -2;
        }
        try {
            append(row(1, height, round, d));
            return rows - 1;
        } catch (PowerGone e) {
            return -4;
        }
    }

    long sent(int row) {
        index(row >= 0 && row < (on ? rows : 128));
        power();
        return rowState(row) == 'R' && kind(row) == 1 ? 1 : 0;
    }

    long certify(long digest, int signers) {
        power();
        argument(signers >= 0 && signers <= 15);
        if (need()) {
            return -3;
        }
        Said said = said();
        long d = meant(said, digest);
        if (!said.blocks.containsKey(d)) {
            return -6;
        }
        if (Integer.bitCount(signers) < 3) {
            return -8;
        }
        int block = said.blocks.get(d);
        if (said.chain.contains(d)) {
            return a(block);
        }
        if (a(block) != said.last() + 1 || c(block) != said.blockOf(said.last())) {
            return -9;
        }
        if (rows == 128) {
            return -2;
        }
        try {
            append(row(4, a(block), signers, d));
            return a(block);
        } catch (PowerGone e) {
            return -4;
        }
    }

    long version(int what) {
        power();
        argument(what == 0 || what == 1);
        return what == 0 ? said().last() : said().baseHeight;
    }

    private boolean kept(int version) {
        Said said = said();
        return !need() && version >= said.baseHeight && version <= said.last();
    }

    long slot(int version, int slot) {
        power();
        argument(slot >= 0 && slot < 16 && kept(version));
        return said().versions.get(version - said().baseHeight)[slot];
    }

    long page(long digest) {
        power();
        for (int p = 0; p < pages; p++) {
            if (pageState(p) == 'R' && value(pageAt(p) + 17, 8) == digest) {
                return p;
            }
        }
        return -1;
    }

    long byteOf(int page, int i) {
        index(page >= 0 && page < pages && i >= 0 && i < 16);
        power();
        return pageState(page) == 'R' && i < disk[pageAt(page)] ? disk[pageAt(page) + 1 + i] : -1;
    }

    long named(int page) {
        index(page >= 0 && page < pages);
        power();
        return pageState(page) == 'R' && !need() && isNamed(said(), value(pageAt(page) + 17, 8)) ? 1 : 0;
    }

    private boolean staysBlock(Said said, int row, int height) {
        if (!said.digestOfRow.containsKey(row) || kind(row) != 2) {
            return false;
        }
        if (!Integer.valueOf(row).equals(said.blocks.get(said.digestOfRow.get(row))) || a(row) <= height) {
            return false;
        }
        long parent = c(row);
        return parent == said.blockOf(height)
            || said.blocks.containsKey(parent) && staysBlock(said, said.blocks.get(parent), height);
    }

    long prune(int height) {
        power();
        if (need()) {
            return -3;
        }
        Said said = said();
        argument(height > said.baseHeight && height <= said.last());
        List<int[]> fresh = new ArrayList<>();
        long[] slots = said.versions.get(height - said.baseHeight);
        fresh.add(row(5, height, (int) Arrays.stream(slots).filter(d -> d != 0).count(), said.blockOf(height)));
        for (int s = 0; s < 16; s++) {
            if (slots[s] != 0) {
                fresh.add(row(3, s, 0, slots[s]));
            }
        }
        for (int r = 0; r < rows; r++) {
            int more = 0;
            if (staysBlock(said, r, height)) {
                more = 1 + b(r);
            } else if (r == said.vote || said.fitting.contains(r) && a(said.blocks.get(c(r))) > height) {
                more = 1;
            }
            for (int i = 0; i < more; i++) {
                int[] bytes = cut(rowAt(area, r + i), 32);
                bytes[31] = 165;
                fresh.add(bytes);
            }
        }
        if (fresh.size() > 128) {
            return -2;
        }
        try {
            return move(fresh);
        } catch (PowerGone e) {
            return -4;
        }
    }

    private int move(List<int[]> fresh) {
        int other = 1 - area;
        erase(rowAt(other, 0), 4096);
        for (int r = 0; r < fresh.size(); r++) {
            write(rowAt(other, r), fresh.get(r));
        }
        write(16 * other, head(generation + 1));
        erase(16 * area, 16);
        area = other;
        generation++;
        rows = fresh.size();
        Said said = said();
        int erased = 0;
        for (int p = 0; p < pages; p++) {
            if (pageState(p) == 'R' && !isNamed(said, value(pageAt(p) + 17, 8))) {
                erase(pageAt(p), 26);
                erased++;
            }
        }
        return erased;
    }

    long out(int version) {
        power();
        argument(version != 0 && kept(version));
        Said said = said();
        long[] slots = said.versions.get(version - said.baseHeight);
        int[] leaves = {};
        int count = 0;
        for (int s = 0; s < 16; s++) {
            if (slots[s] != 0) {
                int p = (int) page(slots[s]);
                if (p < 0) {
                    return -6;
                }
                leaves = join(leaves, new int[] {s}, cut(pageAt(p), 1 + disk[pageAt(p)]));
                count++;
            }
        }
        int[] all = join(number(version, 4), number(said.blockOf(version), 8), new int[] {count}, leaves);
        all = join(all, number(sum(5, all), 8));
        tape.clear();
        for (int b : all) {
            tape.add(b);
        }
        return all.length;
    }

    long in() {
        power();
        if (need()) {
            return -3;
        }
        if (rows > 0) {
            return -9;
        }
        int[] t = tapeBytes();
        List<int[]> leaves = new ArrayList<>();
        List<Integer> slots = new ArrayList<>();
        if (!readSnapshot(t, slots, leaves)) {
            return -10;
        }
        Set<String> fresh = new HashSet<>();
        for (int[] leaf : leaves) {
            if (samePage(leaf) < 0) {
                fresh.add(Arrays.toString(leaf));
            }
        }
        if (fresh.size() > freePages()) {
            return -2;
        }
        tape.clear();
        try {
            for (int[] leaf : leaves) {
                put(leaf);
            }
            int height = (t[0] << 24) + (t[1] << 16) + (t[2] << 8) + t[3];
            long digest = 0;
            for (int i = 4; i < 12; i++) {
                digest = digest << 8 | t[i];
            }
            append(row(5, height, leaves.size(), digest));
            for (int i = 0; i < leaves.size(); i++) {
                append(row(3, slots.get(i), 0, sum(3, Arrays.copyOf(page(leaves.get(i)), 17))));
            }
            return height;
        } catch (PowerGone e) {
            return -4;
        }
    }

    private static boolean readSnapshot(int[] t, List<Integer> slots, List<int[]> leaves) {
        if (t.length < 21) {
            return false;
        }
        int[] front = Arrays.copyOf(t, t.length - 8);
        if (!Arrays.equals(number(sum(5, front), 8), Arrays.copyOfRange(t, t.length - 8, t.length))) {
            return false;
        }
        long height = ((long) t[0] << 24) + (t[1] << 16) + (t[2] << 8) + t[3];
        if (height < 1 || height > 1000000 || zero(Arrays.copyOfRange(t, 4, 12))) {
            return false;
        }
        int at = 13;
        for (int i = 0; i < t[12]; i++) {
            if (at + 2 > front.length || t[at + 1] < 1 || t[at + 1] > 16 || at + 2 + t[at + 1] > front.length) {
                return false;
            }
            if (t[at] > 15 || !slots.isEmpty() && slots.get(slots.size() - 1) >= t[at]) {
                return false;
            }
            slots.add(t[at]);
            leaves.add(Arrays.copyOfRange(t, at + 2, at + 2 + t[at + 1]));
            at += 2 + t[at + 1];
        }
        return at == front.length;
    }

    void cut(int acts) {
        argument(acts >= -1 && acts <= 5000);
        left = acts;
    }

    long off() {
        boolean was = on;
        on = false;
        collected.clear();
        return was ? 1 : 0;
    }

    private boolean headRight(int h) {
        int[] bytes = cut(16 * h, 16);
        int[] sum = Arrays.copyOfRange(bytes, 8, 16);
        return Arrays.equals(Arrays.copyOfRange(bytes, 4, 8), new int[] {0, 0, 0, 165}) && !zero(sum)
            && Arrays.equals(sum, number(sum(1, Arrays.copyOf(bytes, 8)), 8));
    }

    long open() {
        if (on) {
            return rows;
        }
        int best = -1;
        for (int h = 0; h < 2; h++) {
            if (headRight(h) && (best < 0 || value(16 * h, 4) >= value(16 * best, 4))) {
                best = h;
            }
        }
        if (best < 0) {
            return -5;
        }
        on = true;
        area = best;
        generation = (int) value(16 * best, 4);
        try {
            recover();
            return rows;
        } catch (PowerGone e) {
            return -4;
        }
    }

    private void recover() {
        if (!zero(cut(16 * (1 - area), 16))) {
            erase(16 * (1 - area), 16);
        }
        rows = 0;
        while (rows < 128 && "RB".indexOf(rowState(rows)) >= 0) {
            rows++;
        }
        if (rows < 128 && rowState(rows) == 'T') {
            erase(rowAt(area, rows), 32);
        }
        if (!need()) {
            dropLacking();
        }
        for (int p = 0; p < pages; p++) {
            if (pageState(p) == 'T') {
                erase(pageAt(p), 26);
            }
        }
        for (int r = 0; r < rows; r++) {
            if (rowState(r) == 'R' && disk[rowAt(area, r) + 31] != 165) {
                write(rowAt(area, r) + 31, new int[] {165});
            }
        }
        for (int p = 0; p < pages; p++) {
            if (pageState(p) == 'R' && disk[pageAt(p) + 25] != 165) {
                write(pageAt(p) + 25, new int[] {165});
            }
        }
    }

    private void dropLacking() {
        for (int r = rows - 1; r >= 0; r--) {
            if (kind(r) == 2 || kind(r) == 5) {
                if (b(r) >= 0 && b(r) <= 16 && rows - 1 - r < b(r)) {
                    for (int i = rows - 1; i >= r; i--) {
                        erase(rowAt(area, i), 32);
                    }
                    rows = r;
                }
                return;
            }
        }
    }

    long poke(int place, int mask) {
        index(place >= 0 && place < disk.length);
        if (on) {
            throw new IllegalStateException();
        }
        argument(mask >= 0 && mask < 256);
        disk[place] ^= mask;
        return disk[place];
    }

    long byteAt(int place) {
        index(place >= 0 && place < disk.length);
        return disk[place];
    }

    long asked(int k) {
        power();
        List<Integer> asked = asked();
        return k >= 0 && k < asked.size() ? asked.get(k) : -1;
    }

    long mend(int what) {
        power();
        argument(asked().contains(what));
        boolean isRow = what < 128;
        if (isRow ? tape.size() != 23 : tape.size() < 1 || tape.size() > 16) {
            return -10;
        }
        int place = isRow ? rowAt(area, what) : pageAt(what - 128);
        int body = isRow ? 23 : 17;
        int[] made = isRow ? closed(2, tapeBytes()) : page(tapeBytes());
        int unlike = 0;
        for (int i = body; i < body + 8; i++) {
            if (made[i] != disk[place + i]) {
                unlike++;
            }
        }
        boolean same = Arrays.equals(cut(place, body), Arrays.copyOf(made, body));
        if (unlike > 0 && !(same && unlike == 1)) {
            return -10;
        }
        tape.clear();
        try {
            write(place, made);
            if (isRow && !need()) {
                dropLacking();
            }
            return asked().size();
        } catch (PowerGone e) {
            return -4;
        }
    }

    long told(int what) {
        argument(what >= 0 && what <= 8);
        if (what == 0) {
            return on ? 1 : 0;
        }
        if (what == 1) {
            return acts;
        }
        if (!on) {
            return 0;
        }
        long badRows = asked().stream().filter(n -> n < 128).count();
        long[] all = {0, 0, area, generation, rows, freePages(), badRows, asked().size() - badRows, collected.size()};
        return all[what];
    }
}
