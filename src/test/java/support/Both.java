import java.util.ArrayList;
import java.util.List;

/** The class and the model side by side: each call goes to both, and their answers must be the same. */
final class Both {
    final BlockLog log;
    final Model model;
    final List<String> trail = new ArrayList<>();
    int wrong;
    int calls;

    Both(int pages) {
        log = new BlockLog(pages);
        model = new Model(pages);
        trail.add("new BlockLog(" + pages + ")");
    }

    private interface Call {
        long run();
    }

    private static String answerOf(Call call) {
        try {
            return Long.toString(call.run());
        } catch (IndexOutOfBoundsException | IllegalStateException | IllegalArgumentException e) {
            // The class itself: one that the machine throws (ArrayIndexOutOfBoundsException) has another one.
            return e.getClass().getSimpleName();
        } catch (RuntimeException e) {
            return "machine: " + e;
        }
    }

    private static long bit(boolean b) {
        return b ? 1 : 0;
    }

    String call(String name, long... v) {
        int i = v.length > 0 ? (int) v[0] : 0;
        int j = v.length > 1 ? (int) v[1] : 0;
        long w = v.length > 0 ? v[0] : 0;
        switch (name) {
            case "feed": return same(name, v, () -> log.feed(w, j), () -> model.feed(w, j));
            case "wipe": return same(name, v, () -> log.wipe(), () -> model.wipe());
            case "at": return same(name, v, () -> log.at(i), () -> model.at(i));
            case "leaf": return same(name, v, () -> log.leaf(), () -> model.leaf());
            case "change": return same(name, v, () -> log.change(i, j), () -> model.change(i, j));
            case "block": return same(name, v, () -> log.block(i, v[1]), () -> model.block(i, v[1]));
            case "digest": return same(name, v, () -> log.digest(i), () -> model.digest(i));
            case "vote": return same(name, v, () -> log.vote(i, j, v[2]), () -> model.vote(i, j, v[2]));
            case "sent": return same(name, v, () -> bit(log.sent(i)), () -> model.sent(i));
            case "certify": return same(name, v, () -> log.certify(w, j), () -> model.certify(w, j));
            case "version": return same(name, v, () -> log.version(i), () -> model.version(i));
            case "slot": return same(name, v, () -> log.slot(i, j), () -> model.slot(i, j));
            case "page": return same(name, v, () -> log.page(w), () -> model.page(w));
            case "byteOf": return same(name, v, () -> log.byteOf(i, j), () -> model.byteOf(i, j));
            case "named": return same(name, v, () -> bit(log.named(i)), () -> model.named(i));
            case "prune": return same(name, v, () -> log.prune(i), () -> model.prune(i));
            case "out": return same(name, v, () -> log.out(i), () -> model.out(i));
            case "in": return same(name, v, () -> log.in(), () -> model.in());
            case "cut": return same(name, v, () -> { log.cut(i); return 0; }, () -> { model.cut(i); return 0; });
            case "off": return same(name, v, () -> bit(log.off()), () -> model.off());
            case "open": return same(name, v, () -> log.open(), () -> model.open());
            case "poke": return same(name, v, () -> log.poke(i, j), () -> model.poke(i, j));
            case "byteAt": return same(name, v, () -> log.byteAt(i), () -> model.byteAt(i));
            case "asked": return same(name, v, () -> log.asked(i), () -> model.asked(i));
            case "mend": return same(name, v, () -> log.mend(i), () -> model.mend(i));
            case "told": return same(name, v, () -> log.told(i), () -> model.told(i));
            default: throw new AssertionError(name);
        }
    }

    private String same(String name, long[] v, Call mine, Call theirs) {
        String want = answerOf(theirs);
        String got = answerOf(mine);
        StringBuilder line = new StringBuilder(name).append('(');
        for (int k = 0; k < v.length; k++) {
            line.append(k == 0 ? "" : ", ").append(v[k]);
        }
        line.append(") -> ").append(want);
        calls++;
        if (!got.equals(want)) {
            wrong++;
            line.append(" BUT answered ").append(got);
        }
        trail.add(line.toString());
        return want;
    }

    /** Pokes until the bytes from a place on are these. The power must be off. */
    void overwrite(int place, int[] bytes) {
        for (int i = 0; i < bytes.length; i++) {
            int mask = model.disk[place + i] ^ bytes[i];
            if (mask != 0) {
                call("poke", place + i, mask);
            }
        }
    }

    void feedAll(int... bytes) {
        call("wipe");
        for (int b : bytes) {
            call("feed", b, 1);
        }
    }

    /** Every byte of the disk (of a big one the first pages), and all that told() tells. */
    void compareAll() {
        int end = Math.min(model.disk.length, 8224 + 26 * 40);
        for (int place = 0; place < end; place++) {
            if (log.byteAt(place) != model.disk[place]) {
                wrong++;
                trail.add("byte " + place + " is " + log.byteAt(place) + ", due is " + model.disk[place]);
                return;
            }
        }
        for (int what = 0; what <= 8; what++) {
            call("told", what);
        }
    }
}
