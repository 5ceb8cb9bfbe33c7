import java.util.ArrayList;
import java.util.List;

/** The best path against all paths there are, of short tunes and songs. */
public final class PathTests {
    private static final Checks CHECKS = new Checks("PathTests");

    private final int[] sung;
    private final int[] asked;
    private int[] best;
    private int least;

    private PathTests(int[] sung, int[] asked) {
        this.sung = sung;
        this.asked = asked;
    }

    public static void main(String[] args) {
        Numbers numbers = new Numbers(77);
        for (int run = 0; run < 300; run++) {
            int notes = numbers.between(1, run % 10 == 0 ? 3 : 2);
            int places = numbers.between(1, run % 10 == 0 ? 2 : 4);
            int[] steps = new int[places];
            int[] pitches = new int[notes];
            for (int i = 0; i < places; i++) {
                steps[i] = numbers.upTo(numbers.oneOf(2, 7, 24));
            }
            for (int i = 0; i < notes; i++) {
                pitches[i] = 6000 + 100 * steps[numbers.upTo(places - 1)]
                        + numbers.oneOf(0, 10, 13, 25, -25, 40, 60, 75, -110, 200, 310, -600);
            }
            compare(run, steps, pitches);
        }
        CHECKS.end();
    }

    private static void compare(int run, int[] steps, int[] pitches) {
        Tuneward room = new Tuneward();
        room.song();
        int[] asked = new int[steps.length];
        for (int i = 0; i < steps.length; i++) {
            room.add(0, steps[i], 1);
            asked[i] = 100 * steps[i];
        }
        for (int pitch : pitches) {
            for (int i = 0; i < 3; i++) {
                room.frame(pitch, 50, 90);
            }
            room.frame(pitch, 0, 0);
        }
        PathTests all = new PathTests(pitches, asked);
        all.tryAll(0, new int[2 * pitches.length]);
        CHECKS.same(run + ": cost", room.cost(0), all.least);
        List<Integer> got = new ArrayList<>();
        List<Integer> want = new ArrayList<>();
        for (int i = 0; i < pitches.length; i++) {
            int note = i;
            got.add(room.laidOn(0, i));
            want.add(all.best[2 * i]);
            boolean laid = all.best[2 * i] >= 0;
            CHECKS.same(run + ": key of " + i, Checks.outcome(() -> room.keyOf(0, note)),
                    laid ? (Object) all.best[2 * i + 1] : "NoSuchElementException");
        }
        CHECKS.same(run + ": places", got, want);
    }

    /** A path is a row of place and key by note; the key of a note laid on none is 0. */
    private void tryAll(int note, int[] path) {
        if (note == sung.length) {
            int cost = costOf(path);
            if (best == null || cost < least || cost == least && isAhead(path, best)) {
                best = path.clone();
                least = cost;
            }
            return;
        }
        int free = 0;
        for (int i = 0; i < note; i++) {
            free = Math.max(free, path[2 * i] + 1);
        }
        path[2 * note] = -1;
        path[2 * note + 1] = 0;
        tryAll(note + 1, path);
        for (int place = free; place < asked.length; place++) {
            for (int key = -8; key <= 8; key++) {
                path[2 * note] = place;
                path[2 * note + 1] = key;
                tryAll(note + 1, path);
            }
        }
    }

    private int costOf(int[] path) {
        int cost = 0;
        int last = 0;
        int laid = 0;
        for (int i = 0; i < sung.length; i++) {
            int place = path[2 * i];
            int key = path[2 * i + 1];
            if (place < 0) {
                cost += 30;
            } else {
                int due = asked[place] + sung[0] - asked[0] + 25 * key;
                cost += Math.abs(sung[i] - due) / 10 + 3 * Math.abs(key - last);
                last = key;
                laid++;
            }
        }
        return cost + 30 * (asked.length - laid);
    }

    private static boolean isAhead(int[] path, int[] other) {
        for (int i = 0; i < path.length; i++) {
            if (path[i] != other[i]) {
                return path[i] < other[i];
            }
        }
        return false;
    }
}
