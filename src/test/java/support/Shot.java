import java.util.ArrayList;
import java.util.List;

/**
 * All that can be seen of a log, so that two such pictures tell whether a call has changed anything. (A picture takes more
 * than 512 calls. What the document leaves free behind these does not show: the class counts no calls.)
 */
final class Shot {
    private final BlockLog log;
    private final List<String> lines = new ArrayList<>();

    private Shot(BlockLog log) {
        this.log = log;
    }

    private interface Look {
        Object at(int i);
    }

    static List<String> of(BlockLog x) {
        Shot shot = new Shot(x);
        shot.take("told", 0, x::told);
        shot.take("tape", 0, x::at);
        shot.take("byte", 0, x::byteAt);
        if (x.told(0) == 1) {
            shot.takeWhatIsOn();
        }
        return shot.lines;
    }

    private void takeWhatIsOn() {
        take("version", 0, log::version);
        take("digest", 0, log::digest);
        take("sent", 0, log::sent);
        take("named", 0, log::named);
        for (int k = 0; log.asked(k) >= 0; k++) {
            lines.add("asked " + k + " is " + log.asked(k));
        }
        for (int s = 0; s < 16; s++) {
            int slot = s;
            take("slot " + s + " of", log.version(1), v -> log.slot(v, slot));
        }
        for (int p = 0; p < log.told(5) + 8; p++) {
            int page = p;
            take("page " + p + " has", 0, i -> log.byteOf(page, i));
        }
    }

    /** One line for each that there is, up to the first that is refused by an exception. */
    private void take(String name, int from, Look look) {
        for (int i = from; i < 100000; i++) {
            try {
                lines.add(name + " " + i + " is " + look.at(i));
            } catch (IndexOutOfBoundsException | IllegalArgumentException e) {
                lines.add(name + " " + i + " is not there");
                return;
            }
        }
    }
}
