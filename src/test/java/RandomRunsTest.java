import java.util.ArrayList;
import java.util.Arrays;
import java.util.List;
import java.util.Random;
import java.util.TreeMap;

/** Random runs, guided so that they get far, held against the model: each answer, and all bytes of the disk. */
public final class RandomRunsTest {
    private static final int[] SIZES = {1, 2, 3, 4, 6, 8, 12, 20, 40};

    private final Random random;
    private final Both both;
    private final List<int[]> snapshots;
    private int[] kept;

    private RandomRunsTest(long seed, List<int[]> snapshots) {
        random = new Random(seed);
        both = new Both(random.nextInt(60) == 0 ? 65536 : SIZES[random.nextInt(SIZES.length)]);
        this.snapshots = snapshots;
    }

    public static void main(String[] args) {
        int runs = args.length > 1 ? Integer.parseInt(args[1]) : 4000;
        long seed0 = args.length > 2 ? Long.parseLong(args[2]) : 1;
        List<int[]> snapshots = new ArrayList<>();
        TreeMap<String, Integer> seen = new TreeMap<>();
        long calls = 0;
        for (int run = 0; run < runs; run++) {
            RandomRunsTest test = new RandomRunsTest(seed0 + run, snapshots);
            test.run();
            calls += test.both.calls;
            count(test.both.trail, seen);
            if (test.both.wrong > 0) {
                System.out.println("run with seed " + (seed0 + run) + ":");
                test.both.trail.forEach(line -> System.out.println("  " + line));
                System.exit(1);
            }
        }
        List<String> missing = new ArrayList<>();
        for (String due : DUE) {
            if (!seen.containsKey(due)) {
                missing.add(due);
            }
        }
        if (args.length > 1) {
            System.out.println(seen);
        }
        System.out.println(runs + " runs, " + calls + " calls, answers that never came: " + missing);
        if (!missing.isEmpty()) {
            System.exit(1);
        }
    }

    /** The kinds of answers that the runs together must have seen, else they test less than they seem to. */
    private static final String[] DUE = {
        "leaf -2", "leaf -3", "leaf -4", "leaf >=0", "change -6", "change -2", "change >=0",
        "block -3", "block -6", "block -10", "block -2", "block -4", "block >=0",
        "vote -3", "vote -6", "vote -7", "vote -2", "vote -4", "vote >=0",
        "certify -3", "certify -6", "certify -8", "certify -9", "certify -2", "certify -4", "certify >=0",
        "prune -3", "prune -4", "prune >=0", "prune IllegalArgumentException",
        "out -6", "out >=0", "out IllegalArgumentException",
        "in -3", "in -9", "in -10", "in -2", "in -4", "in >=0",
        "open -5", "open -4", "open >=0", "mend -10", "mend -4", "mend >=0", "mend IllegalArgumentException",
        "asked -1", "asked >=0", "poke IllegalStateException", "slot IllegalArgumentException",
    };

    private static void count(List<String> trail, TreeMap<String, Integer> seen) {
        for (String line : trail) {
            int arrow = line.indexOf(" -> ");
            if (arrow < 0) {
                continue;
            }
            String name = line.substring(0, line.indexOf('('));
            String answer = line.substring(arrow + 4);
            boolean number = answer.matches("-?[0-9]+");
            boolean far = number && !answer.startsWith("-") || answer.length() > 4 && number;
            seen.merge(name + " " + (far ? ">=0" : answer), 1, Integer::sum);
        }
    }

    private void run() {
        if (random.nextInt(4) == 0 && !snapshots.isEmpty()) {
            both.call("cut", random.nextInt(4) == 0 ? random.nextInt(600) : -1);
            both.feedAll(snapshots.get(random.nextInt(snapshots.size())));
            both.call("in");
        }
        int steps = 40 + random.nextInt(200);
        boolean calm = random.nextBoolean();
        boolean busy = random.nextInt(8) == 0;
        for (int step = 0; step < steps && both.wrong == 0; step++) {
            if (!both.model.on && random.nextInt(3) > 0 && both.call("open").equals("-5")) {
                both.overwrite(16 * both.model.area, Model.head(both.model.generation));
            }
            if (busy && both.model.on && random.nextInt(3) > 0) {
                fill();
            }
            act(calm ? random.nextInt(76) : random.nextInt(100));
            if (step % 16 == 0) {
                both.compareAll();
            }
        }
        both.compareAll();
    }

    private void fill() {
        for (int i = random.nextInt(9); i > 0; i--) {
            both.call("change", random.nextInt(16), random.nextInt(both.model.pages));
        }
        writeBlock();
    }

    private void act(int dice) {
        if (dice < 14) {
            putLeaf();
        } else if (dice < 24) {
            both.call("change", few(16), random.nextInt(5) == 0 ? -1 : few(both.model.pages));
        } else if (dice < 36) {
            writeBlock();
        } else if (dice < 44) {
            writeVote();
        } else if (dice < 54) {
            writeCertificate();
        } else if (dice < 62) {
            ask();
        } else if (dice < 65) {
            both.call("prune", version());
        } else if (dice < 68) {
            takeSnapshot();
        } else if (dice < 69) {
            both.call("in");
        } else if (dice < 74) {
            both.call("cut", random.nextInt(4) == 0 ? -1 : random.nextInt(3) == 0 ? random.nextInt(5) : random.nextInt(200));
        } else if (dice < 76) {
            wrongInput();
        } else if (dice < 88) {
            damage();
        } else if (dice < 96) {
            mend();
        } else {
            both.call("off");
            both.call("open");
        }
    }

    private int few(int bound) {
        return random.nextInt(Math.min(bound, 8));
    }

    private void putLeaf() {
        int n = 1 + random.nextInt(random.nextInt(4) == 0 ? 16 : 2);
        int[] leaf = new int[n];
        for (int i = 0; i < n; i++) {
            leaf[i] = random.nextInt(3) == 0 ? random.nextInt(256) : random.nextInt(4);
        }
        both.feedAll(leaf);
        both.call("leaf");
    }

    private int randomRow() {
        return both.model.rows == 0 ? 0 : random.nextInt(both.model.rows);
    }

    private void writeBlock() {
        Model.Said said = both.model.said();
        List<Long> blocks = new ArrayList<>(said.blocks.keySet());
        blocks.add(said.baseDigest);
        blocks.add(said.blockOf(said.last()));
        long parent = blocks.get(random.nextInt(blocks.size()));
        int above = said.blocks.containsKey(parent) ? both.model.a(said.blocks.get(parent))
            : parent == said.baseDigest ? said.baseHeight : said.last();
        int dice = random.nextInt(12);
        if (dice == 0) {
            parent = -1 - random.nextInt(128);
        } else if (dice == 1) {
            parent = random.nextLong();
        } else if (dice == 2) {
            above += 1;
        } else if (dice == 3) {
            parent = 0;
            above = 0;
        }
        both.call("block", above + 1, parent);
    }

    private void writeVote() {
        Model.Said said = both.model.said();
        List<Long> blocks = new ArrayList<>(said.blocks.keySet());
        long digest = blocks.isEmpty() || random.nextInt(8) == 0 ? -1 - randomRow() : blocks.get(random.nextInt(blocks.size()));
        int height = said.blocks.containsKey(digest) ? both.model.a(said.blocks.get(digest)) : 1 + few(4);
        both.call("vote", height, random.nextInt(4), digest);
    }

    private void writeCertificate() {
        Model.Said said = both.model.said();
        List<Long> blocks = new ArrayList<>();
        for (long digest : said.blocks.keySet()) {
            if (random.nextInt(6) == 0 || both.model.c(said.blocks.get(digest)) == said.blockOf(said.last())) {
                blocks.add(digest);
            }
        }
        long digest = blocks.isEmpty() ? -1 - randomRow() : blocks.get(random.nextInt(blocks.size()));
        int[] strong = {7, 11, 13, 14, 15, 15, 7, 11, 3, 12, 0};
        both.call("certify", digest, strong[random.nextInt(strong.length)]);
    }

    private int version() {
        Model.Said said = both.model.said();
        return said.baseHeight - 1 + random.nextInt(said.chain.size() + 3);
    }

    private void ask() {
        Model model = both.model;
        both.call("digest", random.nextInt(model.rows + 2));
        both.call("sent", random.nextInt(model.rows + 2));
        both.call("version", random.nextInt(2));
        int version = version();
        both.call("slot", version, few(16));
        both.call("slot", version, random.nextInt(16));
        int page = few(model.pages);
        both.call("named", page);
        both.call("byteOf", page, random.nextInt(16));
        both.call("page", model.value(model.pageAt(page) + 17, 8));
        both.call("asked", random.nextInt(3));
        both.call("at", random.nextInt(20));
    }

    private void takeSnapshot() {
        String answer = both.call("out", version());
        if (answer.matches("[0-9]+")) {
            int[] bytes = new int[Integer.parseInt(answer)];
            for (int i = 0; i < bytes.length; i++) {
                bytes[i] = both.model.tape.get(i);
                both.call("at", i);
            }
            if (snapshots.size() < 200) {
                snapshots.add(bytes);
            } else {
                snapshots.set(random.nextInt(200), bytes);
            }
        }
        if (random.nextInt(3) == 0) {
            both.call("feed", random.nextInt(256), 1);
        }
    }

    private void wrongInput() {
        String[] names = {"feed", "at", "change", "block", "vote", "certify", "version", "slot", "byteOf", "named", "out",
            "cut", "poke", "byteAt", "asked", "mend", "told", "digest", "sent", "prune", "page"};
        long[] odd = {-1, 0, 1, 2, 15, 16, 17, 127, 128, 129, 255, 256, 400, 5000, 5001, 1000000, 1000001, -2, -128, -129,
            Integer.MAX_VALUE, Integer.MIN_VALUE, Long.MAX_VALUE, Long.MIN_VALUE, both.model.disk.length, both.model.pages};
        String name = names[random.nextInt(names.length)];
        both.call(name, odd[random.nextInt(odd.length)], odd[random.nextInt(odd.length)], odd[random.nextInt(odd.length)]);
    }

    private void damage() {
        both.call("off");
        Model model = both.model;
        kept = model.disk.clone();
        int rows = Math.min(model.rows + 2, 128);
        for (int times = 1 + few(3); times > 0; times--) {
            int dice = random.nextInt(24);
            int row = random.nextInt(rows);
            int place = model.rowAt(model.area, row);
            if (dice < 8) {
                both.call("poke", place + random.nextInt(32), 1 + random.nextInt(255));
            } else if (dice < 12) {
                both.call("poke", model.pageAt(few(model.pages)) + random.nextInt(26), 1 + random.nextInt(255));
            } else if (dice < 14) {
                both.call("poke", random.nextInt(model.disk.length), random.nextInt(256));
            } else if (dice < 16) {
                both.overwrite(place + random.nextInt(32), new int[] {0});
                both.overwrite(place + 31, new int[] {random.nextInt(3) == 0 ? 7 : 0});
            } else if (dice < 18) {
                both.overwrite(place, craftedRow());
            } else if (dice < 19) {
                both.overwrite(place, new int[32]);
            } else if (dice < 20) {
                both.overwrite(model.pageAt(few(model.pages)), craftedPage());
            } else if (dice < 21) {
                damageHead();
            } else if (dice < 22) {
                both.overwrite(place + 23 + random.nextInt(8), new int[] {random.nextInt(256)});
            } else if (dice < 23) {
                both.overwrite(model.pageAt(few(model.pages)) + 25, new int[] {random.nextInt(2)});
            } else {
                both.call("cut", random.nextInt(6));
            }
        }
        both.call("open");
        for (int i = 0; i < 3; i++) {
            both.call("asked", i);
        }
    }

    private void damageHead() {
        int dice = random.nextInt(6);
        int head = random.nextInt(2);
        if (dice == 0) {
            both.overwrite(16 * head, Model.head(random.nextInt()));
        } else if (dice == 1) {
            both.overwrite(16 * head, Model.head(both.model.generation));
        } else if (dice == 2) {
            both.call("poke", 16 * head + random.nextInt(16), 1 << random.nextInt(8));
        } else if (dice == 3) {
            both.overwrite(16 * both.model.area, new int[16]);
            both.call("open");
            both.overwrite(16 * both.model.area, Model.head(both.model.generation));
        } else {
            both.overwrite(16 * (1 - both.model.area), Model.head(both.model.generation + random.nextInt(3) - 1));
        }
    }

    private int[] craftedRow() {
        Model model = both.model;
        List<Long> digests = new ArrayList<>();
        digests.add(0L);
        for (int r = 0; r < model.rows; r++) {
            digests.add(model.c(r));
        }
        digests.addAll(model.said().blocks.keySet());
        digests.add(model.said().baseDigest);
        long c = digests.get(random.nextInt(digests.size()));
        int kind = random.nextInt(10) == 0 ? random.nextInt(256) : 1 + random.nextInt(5);
        int[] numbers = {0, 1, 2, 3, 4, 15, 16, 17, -1, 1000000, 1000001};
        int a = kind == 3 ? random.nextInt(17) : numbers[random.nextInt(random.nextInt(3) == 0 ? numbers.length : 4)];
        int b = numbers[random.nextInt(random.nextInt(3) == 0 ? numbers.length : 3)];
        int[] row = Model.row(kind, a, b, c);
        if (random.nextInt(6) == 0) {
            row[31] = random.nextInt(256);
        }
        return row;
    }

    private int[] craftedPage() {
        int[] body = new int[17];
        body[0] = random.nextInt(4) == 0 ? random.nextInt(20) : random.nextInt(3);
        for (int i = 1; i < 1 + random.nextInt(4); i++) {
            body[i] = random.nextInt(3);
        }
        int[] page = Model.closed(3, body);
        page[25] = random.nextInt(3) == 0 ? 0 : 165;
        return page;
    }

    private void mend() {
        String answer = both.call("asked", random.nextInt(2));
        if (!answer.matches("[0-9]+")) {
            both.call("mend", random.nextInt(140));
            return;
        }
        int what = Integer.parseInt(answer);
        Model model = both.model;
        int[] from = kept != null && random.nextInt(3) > 0 ? kept : model.disk;
        int place = what < 128 ? model.rowAt(model.area, what) : model.pageAt(what - 128);
        if (what < 128) {
            both.feedAll(Arrays.copyOfRange(from, place, place + 23));
        } else {
            int n = Math.max(1, Math.min(16, from[place]));
            both.feedAll(Arrays.copyOfRange(from, place + 1, place + 1 + n));
        }
        if (random.nextInt(12) == 0) {
            both.call("feed", 0, 1);
        }
        both.call("mend", what);
    }
}
